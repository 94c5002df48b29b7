/-! the code does what the functions say (written by wip/whole/gen/spec.py) -/
-- TradeTests$Texts.readNumber
set_option maxHeartbeats 20000000 in
set_option maxRecDepth 100000 in
set_option maxHeartbeats 20000000 in
set_option maxRecDepth 100000 in
theorem vh_38_4 {sc : Nat × (Nat → Int32)} {C : CT} (hC : MonC C) {Q : Int32 → St → Prop} (v1 : Int32) (v2 : Int32) (v3 : Int32) (σ : St) (v : (v1 ≤ v3 → (v3 ≤ 0 → Q (-1) σ) ∧ (¬ v3 ≤ 0 → C 37 [.ref 4] σ (fun r11 σ11 => (r11 = 0 → Q (-1) σ11) ∧ (¬ r11 = 0 → Q v2 σ11)))) ∧ (¬ v1 ≤ v3 → C 33 [.ref 4] σ (fun r12 σ12 => C 35 [.int r12, .int 57] σ12 (fun r13 σ13 => (r13 = 0 → (v3 ≤ 0 → Q (-1) σ13) ∧ (¬ v3 ≤ 0 → C 37 [.ref 4] σ13 (fun r14 σ14 => (r14 = 0 → Q (-1) σ14) ∧ (¬ r14 = 0 → Q v2 σ14)))) ∧ (¬ r13 = 0 → C 33 [.ref 4] σ13 (fun r15 σ15 => Ex sc C 1 cd_38 Q 4 [some (.ref 4), some (.int v1), some (.int (((v2 * 10) + r15) - 48)), some (.int (v3 + 1))] [] (up σ15 4 2 ((σ15 4 2) + 1)))))))) : Ex sc C 1 cd_38 Q 4 [some (.ref 4), some (.int v1), some (.int v2), some (.int v3)] [] σ := stw_Ex (cuts := [4]) hC 26 v
theorem hl_38_4 {sc : Nat × (Nat → Int32)} {Q : Int32 → St → Prop} : ∀ (n : Nat) (v1 : Int32) (v2 : Int32) (v3 : Int32) (σ : St), Ap (lp_38_4 n v1 v2 v3 σ) Q → Ex sc CC 1 cd_38 Q 4 [some (.ref 4), some (.int v1), some (.int v2), some (.int v3)] [] σ := by
  intro n
  induction n with
  | zero => intro v1 v2 v3 σ h; exact n_no h
  | succ n ih =>
    intro v1 v2 v3 σ h
    exact vh_38_4 monCC v1 v2 v3 σ (n_if h (fun h => n_if h (fun h => n_rt h) (fun h => cc_37 (n_bn h (fun r11 σ11 h => n_if h (fun h => n_rt h) (fun h => n_rt h))))) (fun h => cc_33 (n_bn h (fun r12 σ12 h => cc_35 (n_bn h (fun r13 σ13 h => n_if h (fun h => n_if h (fun h => n_rt h) (fun h => cc_37 (n_bn h (fun r14 σ14 h => n_if h (fun h => n_rt h) (fun h => n_rt h))))) (fun h => cc_33 (n_bn h (fun r15 σ15 h => ih v1 (((v2 * 10) + r15) - 48) (v3 + 1) (up σ15 4 2 ((σ15 4 2) + 1)) h)))))))))
set_option maxHeartbeats 20000000 in
set_option maxRecDepth 100000 in
theorem ve_38 {sc : Nat × (Nat → Int32)} {C : CT} (hC : MonC C) {Q : Int32 → St → Prop} (x1 : Int32) (σ : St) (v : Ex sc C 1 cd_38 Q 4 [some (.ref 4), some (.int x1), some (.int 0), some (.int 0)] [] σ) : Ex sc C 1 cd_38 Q 0 [some (.ref 4), some (.int x1), none, none] [] σ := wpn_Ex (cuts := [4]) hC (fun _ _ _ _ z => z) 6 0 _ _ _ v
set_option maxHeartbeats 20000000 in
set_option maxRecDepth 100000 in
theorem hp_38 {sc : Nat × (Nat → Int32)} {Q : Int32 → St → Prop} {x1 : Int32} {σ : St} (h : Ap (sp_38 x1 σ) Q) : Ex sc CC 1 cd_38 Q 0 [some (.ref 4), some (.int x1), none, none] [] σ := by
  exact ve_38 monCC x1 σ (hl_38_4 FU x1 0 0 σ h)
-- TradeTests.verdict
set_option maxHeartbeats 20000000 in
set_option maxRecDepth 100000 in
theorem ve_42 {sc : Nat × (Nat → Int32)} {C : CT} (hC : MonC C) {Q : Int32 → St → Prop} (x1 : Int32) (σ : St) (v : C 1 [.int x1, .int (σ 3 14)] σ (fun r7 σ7 => (¬ r7 = 0 → C 43 [.ref 5, .int x1] σ7 (fun r8 σ8 => (r8 = 0 → Q 0 σ8) ∧ (¬ r8 = 0 → Q 1 σ8))) ∧ (r7 = 0 → C 2 [.ref 0, .int 1] σ7 (fun r9 σ9 => Q r9 σ9)))) : Ex sc C 1 cd_42 Q 0 [some (.ref 0), some (.int x1)] [] σ := wpn_Ex (cuts := []) hC (fun _ _ _ _ z => z) 15 0 _ _ _ v
set_option maxHeartbeats 20000000 in
set_option maxRecDepth 100000 in
theorem hp_42 {sc : Nat × (Nat → Int32)} {Q : Int32 → St → Prop} {x1 : Int32} {σ : St} (h : Ap (sp_42 x1 σ) Q) : Ex sc CC 1 cd_42 Q 0 [some (.ref 0), some (.int x1)] [] σ := by
  exact ve_42 monCC x1 σ (cc_1 (n_bn h (fun r7 σ7 h => n_ne h (fun h => cc_2 (n_bn h (fun r9 σ9 h => n_rt h))) (fun h => cc_43 (n_bn h (fun r8 σ8 h => n_if h (fun h => n_rt h) (fun h => n_rt h)))))))
-- TradeTests$Judge.unlikeness
set_option maxHeartbeats 20000000 in
set_option maxRecDepth 100000 in
theorem ve_46 {sc : Nat × (Nat → Int32)} {C : CT} (hC : MonC C) {Q : Int32 → St → Prop} (x1 : Int32) (σ : St) (v : vp_in x1 80 ∧ ((¬ (σ 33 (x1).toNatClampNeg) = 1 → C 43 [.ref 5, .int x1] σ (fun r5 σ5 => (¬ (0 : Int32) = r5 → ((0 : Int32) = 0 → Q 2 σ5) ∧ (¬ (0 : Int32) = 0 → Q 1 σ5)) ∧ ((0 : Int32) = r5 → Q 0 σ5))) ∧ ((σ 33 (x1).toNatClampNeg) = 1 → C 43 [.ref 5, .int x1] σ (fun r6 σ6 => (¬ (1 : Int32) = r6 → ((1 : Int32) = 0 → Q 2 σ6) ∧ (¬ (1 : Int32) = 0 → Q 1 σ6)) ∧ ((1 : Int32) = r6 → Q 0 σ6))))) : Ex sc C 1 cd_46 Q 0 [some (.ref 5), some (.int x1), none] [] σ := wpn_Ex (cuts := []) hC (fun _ _ _ _ z => z) 21 0 _ _ _ v
set_option maxHeartbeats 20000000 in
set_option maxRecDepth 100000 in
theorem hp_46 {sc : Nat × (Nat → Int32)} {Q : Int32 → St → Prop} {x1 : Int32} {σ : St} (h : Ap (sp_46 x1 σ) Q) : Ex sc CC 1 cd_46 Q 0 [some (.ref 5), some (.int x1), none] [] σ := by
  exact ve_46 monCC x1 σ (n_mb h (fun h => n_ne h (fun h => cc_43 (n_bn h (fun r6 σ6 h => n_ne h (fun h => n_rt h) (fun h => n_if h (fun h => n_rt h) (fun h => n_rt h))))) (fun h => cc_43 (n_bn h (fun r5 σ5 h => n_ne h (fun h => n_rt h) (fun h => n_if h (fun h => n_rt h) (fun h => n_rt h)))))))
-- TradeTests$Signals.alikeTests
set_option maxHeartbeats 20000000 in
set_option maxRecDepth 100000 in
set_option maxHeartbeats 20000000 in
set_option maxRecDepth 100000 in
theorem vh_51_4 {sc : Nat × (Nat → Int32)} {C : CT} (hC : MonC C) {Q : Int32 → St → Prop} (v1 : Int32) (v2 : Int32) (v3 : Int32) (σ : St) (v : ((σ 3 14) ≤ v3 → Q v2 σ) ∧ (¬ (σ 3 14) ≤ v3 → vp_in v3 80 ∧ (vp_in v1 80 ∧ ((¬ (σ 25 (v3).toNatClampNeg) = (σ 25 (v1).toNatClampNeg) → Ex sc C 1 cd_51 Q 4 [some (.ref 6), some (.int v1), some (.int v2), some (.int (v3 + 1))] [] σ) ∧ ((σ 25 (v3).toNatClampNeg) = (σ 25 (v1).toNatClampNeg) → C 52 [.ref 6, .int v3, .int v1] σ (fun r3 σ3 => (r3 = 0 → Ex sc C 1 cd_51 Q 4 [some (.ref 6), some (.int v1), some (.int v2), some (.int (v3 + 1))] [] σ3) ∧ (¬ r3 = 0 → Ex sc C 1 cd_51 Q 4 [some (.ref 6), some (.int v1), some (.int (v2 + 1)), some (.int (v3 + 1))] [] σ3))))))) : Ex sc C 1 cd_51 Q 4 [some (.ref 6), some (.int v1), some (.int v2), some (.int v3)] [] σ := stw_Ex (cuts := [4]) hC 25 v
theorem hl_51_4 {sc : Nat × (Nat → Int32)} {Q : Int32 → St → Prop} : ∀ (n : Nat) (v1 : Int32) (v2 : Int32) (v3 : Int32) (σ : St), Ap (lp_51_4 n v1 v2 v3 σ) Q → Ex sc CC 1 cd_51 Q 4 [some (.ref 6), some (.int v1), some (.int v2), some (.int v3)] [] σ := by
  intro n
  induction n with
  | zero => intro v1 v2 v3 σ h; exact n_no h
  | succ n ih =>
    intro v1 v2 v3 σ h
    exact vh_51_4 monCC v1 v2 v3 σ (n_if h (fun h => n_rt h) (fun h => n_mb h (fun h => n_mb h (fun h => n_ne h (fun h => cc_52 (n_bn h (fun r3 σ3 h => n_if h (fun h => ih v1 v2 (v3 + 1) σ3 h) (fun h => ih v1 (v2 + 1) (v3 + 1) σ3 h)))) (fun h => ih v1 v2 (v3 + 1) σ h)))))
set_option maxHeartbeats 20000000 in
set_option maxRecDepth 100000 in
theorem ve_51 {sc : Nat × (Nat → Int32)} {C : CT} (hC : MonC C) {Q : Int32 → St → Prop} (x1 : Int32) (σ : St) (v : Ex sc C 1 cd_51 Q 4 [some (.ref 6), some (.int x1), some (.int 0), some (.int 0)] [] σ) : Ex sc C 1 cd_51 Q 0 [some (.ref 6), some (.int x1), none, none] [] σ := wpn_Ex (cuts := [4]) hC (fun _ _ _ _ z => z) 6 0 _ _ _ v
set_option maxHeartbeats 20000000 in
set_option maxRecDepth 100000 in
theorem hp_51 {sc : Nat × (Nat → Int32)} {Q : Int32 → St → Prop} {x1 : Int32} {σ : St} (h : Ap (sp_51 x1 σ) Q) : Ex sc CC 1 cd_51 Q 0 [some (.ref 6), some (.int x1), none, none] [] σ := by
  exact ve_51 monCC x1 σ (hl_51_4 FU x1 0 0 σ h)
-- TradeTests$Signals.isShut
set_option maxHeartbeats 20000000 in
set_option maxRecDepth 100000 in
theorem ve_57 {sc : Nat × (Nat → Int32)} {C : CT} (hC : MonC C) {Q : Int32 → St → Prop} (x1 : Int32) (σ : St) (v : C 24 [.ref 2, .ref 3, .int x1] σ (fun r3 σ3 => vp_in x1 80 ∧ (vp_in r3 6 ∧ (((σ3 27 (x1).toNatClampNeg) < (σ3 18 (r3).toNatClampNeg) → ((1 : Int32) = 0 ∨ (1 : Int32) = 1) ∧ Q 1 σ3) ∧ (¬ (σ3 27 (x1).toNatClampNeg) < (σ3 18 (r3).toNatClampNeg) → vp_in x1 80 ∧ (vp_in x1 80 ∧ (vp_in r3 6 ∧ ((((σ3 27 (x1).toNatClampNeg) + (σ3 28 (x1).toNatClampNeg)) ≤ (σ3 19 (r3).toNatClampNeg) → ((0 : Int32) = 0 ∨ (0 : Int32) = 1) ∧ Q 0 σ3) ∧ (¬ ((σ3 27 (x1).toNatClampNeg) + (σ3 28 (x1).toNatClampNeg)) ≤ (σ3 19 (r3).toNatClampNeg) → ((1 : Int32) = 0 ∨ (1 : Int32) = 1) ∧ Q 1 σ3))))))))) : Ex sc C 2 cd_57 Q 0 [some (.ref 6), some (.int x1), none] [] σ := wpn_Ex (cuts := []) hC (fun _ _ _ _ z => z) 39 0 _ _ _ v
set_option maxHeartbeats 20000000 in
set_option maxRecDepth 100000 in
theorem hp_57 {sc : Nat × (Nat → Int32)} {Q : Int32 → St → Prop} {x1 : Int32} {σ : St} (h : Ap (sp_57 x1 σ) Q) : Ex sc CC 2 cd_57 Q 0 [some (.ref 6), some (.int x1), none] [] σ := by
  exact ve_57 monCC x1 σ (cc_24 (n_bn h (fun r3 σ3 h => n_mb h (fun h => n_mb h (fun h => n_if h (fun h => n_rb h) (fun h => n_mb h (fun h => n_mb h (fun h => n_mb h (fun h => n_if h (fun h => n_rb h) (fun h => n_rb h))))))))))
-- TradeTests$Judge.isFalsePass
set_option maxHeartbeats 20000000 in
set_option maxRecDepth 100000 in
theorem ve_58 {sc : Nat × (Nat → Int32)} {C : CT} (hC : MonC C) {Q : Int32 → St → Prop} (x1 : Int32) (σ : St) (v : vp_in x1 80 ∧ ((¬ (σ 33 (x1).toNatClampNeg) = 1 → ((0 : Int32) = 0 ∨ (0 : Int32) = 1) ∧ Q 0 σ) ∧ ((σ 33 (x1).toNatClampNeg) = 1 → C 43 [.ref 5, .int x1] σ (fun r3 σ3 => (¬ r3 = 0 → ((0 : Int32) = 0 ∨ (0 : Int32) = 1) ∧ Q 0 σ3) ∧ (r3 = 0 → ((1 : Int32) = 0 ∨ (1 : Int32) = 1) ∧ Q 1 σ3))))) : Ex sc C 2 cd_58 Q 0 [some (.ref 5), some (.int x1)] [] σ := wpn_Ex (cuts := []) hC (fun _ _ _ _ z => z) 15 0 _ _ _ v
set_option maxHeartbeats 20000000 in
set_option maxRecDepth 100000 in
theorem hp_58 {sc : Nat × (Nat → Int32)} {Q : Int32 → St → Prop} {x1 : Int32} {σ : St} (h : Ap (sp_58 x1 σ) Q) : Ex sc CC 2 cd_58 Q 0 [some (.ref 5), some (.int x1)] [] σ := by
  exact ve_58 monCC x1 σ (n_mb h (fun h => n_ne h (fun h => cc_43 (n_bn h (fun r3 σ3 h => n_ne h (fun h => n_rb h) (fun h => n_rb h)))) (fun h => n_rb h)))
-- TradeTests$Rates.fillCells
set_option maxHeartbeats 20000000 in
set_option maxRecDepth 100000 in
set_option maxHeartbeats 20000000 in
set_option maxRecDepth 100000 in
theorem vh_63_30 {sc : Nat × (Nat → Int32)} {C : CT} (hC : MonC C) {Q : Int32 → St → Prop} (v1 : Int32) (σ : St) (v : ((σ 3 14) ≤ v1 → Q 0 σ) ∧ (¬ (σ 3 14) ≤ v1 → C 64 [.ref 7, .int v1] σ (fun r3 σ3 => vp_in r3 16 ∧ (vp_in r3 16 ∧ (vp_in r3 16 ∧ (vp_in v1 80 ∧ (vp_in r3 16 ∧ (Ex sc C 0 cd_63 Q 30 [some (.ref 7), some (.int (v1 + 1)), some (.int r3)] [] (up (up σ3 43 (r3).toNatClampNeg ((σ3 43 (r3).toNatClampNeg) + 1)) 44 (r3).toNatClampNeg ((σ3 44 (r3).toNatClampNeg) + (σ3 33 (v1).toNatClampNeg))))))))))) : Ex sc C 0 cd_63 Q 30 [some (.ref 7), some (.int v1), none] [] σ := stw_Ex (cuts := [2, 30]) hC 32 v
theorem hl_63_30 {sc : Nat × (Nat → Int32)} {Q : Int32 → St → Prop} : ∀ (n : Nat) (v1 : Int32) (σ : St), Ap (lp_63_30 n v1 σ) Q → Ex sc CC 0 cd_63 Q 30 [some (.ref 7), some (.int v1), none] [] σ := by
  intro n
  induction n with
  | zero => intro v1 σ h; exact n_no h
  | succ n ih =>
    intro v1 σ h
    exact vh_63_30 monCC v1 σ (n_if h (fun h => n_rt h) (fun h => cc_64 (n_bn h (fun r3 σ3 h => n_mb h (fun h => n_mb h (fun h => n_mb h (fun h => n_mb h (fun h => n_mb h (fun h => Ex_fg [true, true, false] (ih (v1 + 1) (up (up σ3 43 (r3).toNatClampNeg ((σ3 43 (r3).toNatClampNeg) + 1)) 44 (r3).toNatClampNeg ((σ3 44 (r3).toNatClampNeg) + (σ3 33 (v1).toNatClampNeg))) h))))))))))
set_option maxHeartbeats 20000000 in
set_option maxRecDepth 100000 in
set_option maxHeartbeats 20000000 in
set_option maxRecDepth 100000 in
theorem vh_63_2 {sc : Nat × (Nat → Int32)} {C : CT} (hC : MonC C) {Q : Int32 → St → Prop} (v1 : Int32) (σ : St) (v : (16 ≤ v1 → Ex sc C 0 cd_63 Q 30 [some (.ref 7), some (.int 0), none] [] σ) ∧ (¬ 16 ≤ v1 → vp_in v1 16 ∧ (vp_in v1 16 ∧ (Ex sc C 0 cd_63 Q 2 [some (.ref 7), some (.int (v1 + 1)), none] [] (up (up σ 43 (v1).toNatClampNeg 0) 44 (v1).toNatClampNeg 0))))) : Ex sc C 0 cd_63 Q 2 [some (.ref 7), some (.int v1), none] [] σ := stw_Ex (cuts := [2, 30]) hC 16 v
theorem hl_63_2 {sc : Nat × (Nat → Int32)} {Q : Int32 → St → Prop} : ∀ (n : Nat) (v1 : Int32) (σ : St), Ap (lp_63_2 n v1 σ) Q → Ex sc CC 0 cd_63 Q 2 [some (.ref 7), some (.int v1), none] [] σ := by
  intro n
  induction n with
  | zero => intro v1 σ h; exact n_no h
  | succ n ih =>
    intro v1 σ h
    exact vh_63_2 monCC v1 σ (n_if h (fun h => hl_63_30 FU 0 σ h) (fun h => n_mb h (fun h => n_mb h (fun h => ih (v1 + 1) (up (up σ 43 (v1).toNatClampNeg 0) 44 (v1).toNatClampNeg 0) h))))
set_option maxHeartbeats 20000000 in
set_option maxRecDepth 100000 in
theorem ve_63 {sc : Nat × (Nat → Int32)} {C : CT} (hC : MonC C) {Q : Int32 → St → Prop}  (σ : St) (v : Ex sc C 0 cd_63 Q 2 [some (.ref 7), some (.int 0), none] [] σ) : Ex sc C 0 cd_63 Q 0 [some (.ref 7), none, none] [] σ := wpn_Ex (cuts := [2, 30]) hC (fun _ _ _ _ z => z) 4 0 _ _ _ v
set_option maxHeartbeats 20000000 in
set_option maxRecDepth 100000 in
theorem hp_63 {sc : Nat × (Nat → Int32)} {Q : Int32 → St → Prop}  {σ : St} (h : Ap (sp_63  σ) Q) : Ex sc CC 0 cd_63 Q 0 [some (.ref 7), none, none] [] σ := by
  exact ve_63 monCC  σ (hl_63_2 FU 0 σ h)
