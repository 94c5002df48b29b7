/-! the code does what the functions say (written by wip/whole/gen/spec.py) -/
-- TradeTestsModel.leansOn
set_option maxHeartbeats 20000000 in
set_option maxRecDepth 100000 in
set_option maxHeartbeats 20000000 in
set_option maxRecDepth 100000 in
theorem vh_190_5 {sc : Nat × (Nat → Int32)} {C : CT} (hC : MonC C) {Q : Int32 → St → Prop} (v1 : Int32) (v2 : Int32) (v3 : Int32) (v4 : Int32) (σ : St) (v : ((σ 12 4) ≤ v4 → (v3 < 0 → Q 0 σ) ∧ (¬ v3 < 0 → C 154 [.ref 12, .int v3] σ (fun r5 σ5 => (¬ r5 = 1 → Q 0 σ5) ∧ (r5 = 1 → vp_in v3 80 ∧ (C 129 [.ref 12, .int v1] σ5 (fun r6 σ6 => (((σ5 61 (v3).toNatClampNeg) + r6) < v2 → Q 0 σ6) ∧ (¬ ((σ5 61 (v3).toNatClampNeg) + r6) < v2 → Q 1 σ6))))))) ∧ (¬ (σ 12 4) ≤ v4 → vp_in v4 80 ∧ ((¬ (σ 59 (v4).toNatClampNeg) = v1 → Ex sc C 1 cd_190 Q 5 [some (.ref 12), some (.int v1), some (.int v2), some (.int v3), some (.int (v4 + 1))] [] σ) ∧ ((σ 59 (v4).toNatClampNeg) = v1 → vp_in v4 80 ∧ ((v2 < (σ 61 (v4).toNatClampNeg) → Ex sc C 1 cd_190 Q 5 [some (.ref 12), some (.int v1), some (.int v2), some (.int v3), some (.int (v4 + 1))] [] σ) ∧ (¬ v2 < (σ 61 (v4).toNatClampNeg) → Ex sc C 1 cd_190 Q 5 [some (.ref 12), some (.int v1), some (.int v2), some (.int v4), some (.int (v4 + 1))] [] σ)))))) : Ex sc C 1 cd_190 Q 5 [some (.ref 12), some (.int v1), some (.int v2), some (.int v3), some (.int v4)] [] σ := stw_Ex (cuts := [5]) hC 24 v
theorem hl_190_5 {sc : Nat × (Nat → Int32)} {Q : Int32 → St → Prop} : ∀ (n : Nat) (v1 : Int32) (v2 : Int32) (v3 : Int32) (v4 : Int32) (σ : St), Ap (lp_190_5 n v1 v2 v3 v4 σ) Q → Ex sc CC 1 cd_190 Q 5 [some (.ref 12), some (.int v1), some (.int v2), some (.int v3), some (.int v4)] [] σ := by
  intro n
  induction n with
  | zero => intro v1 v2 v3 v4 σ h; exact n_no h
  | succ n ih =>
    intro v1 v2 v3 v4 σ h
    exact vh_190_5 monCC v1 v2 v3 v4 σ (n_if h (fun h => n_if h (fun h => n_rt h) (fun h => cc_154 (n_bn h (fun r5 σ5 h => n_ne h (fun h => n_mb h (fun h => cc_129 (n_bn h (fun r6 σ6 h => n_if h (fun h => n_rt h) (fun h => n_rt h))))) (fun h => n_rt h))))) (fun h => n_mb h (fun h => n_ne h (fun h => n_mb h (fun h => n_if h (fun h => ih v1 v2 v3 (v4 + 1) σ h) (fun h => ih v1 v2 v4 (v4 + 1) σ h))) (fun h => ih v1 v2 v3 (v4 + 1) σ h))))
set_option maxHeartbeats 20000000 in
set_option maxRecDepth 100000 in
theorem ve_190 {sc : Nat × (Nat → Int32)} {C : CT} (hC : MonC C) {Q : Int32 → St → Prop} (x1 x2 : Int32) (σ : St) (v : Ex sc C 1 cd_190 Q 5 [some (.ref 12), some (.int x1), some (.int x2), some (.int (-1)), some (.int 0)] [] σ) : Ex sc C 1 cd_190 Q 0 [some (.ref 12), some (.int x1), some (.int x2), none, none] [] σ := wpn_Ex (cuts := [5]) hC (fun _ _ _ _ z => z) 6 0 _ _ _ v
set_option maxHeartbeats 20000000 in
set_option maxRecDepth 100000 in
theorem hp_190 {sc : Nat × (Nat → Int32)} {Q : Int32 → St → Prop} {x1 x2 : Int32} {σ : St} (h : Ap (sp_190 x1 x2 σ) Q) : Ex sc CC 1 cd_190 Q 0 [some (.ref 12), some (.int x1), some (.int x2), none, none] [] σ := by
  exact ve_190 monCC x1 x2 σ (hl_190_5 FU x1 x2 (-1) 0 σ h)
-- TradeTests$Texts.readRows
set_option maxHeartbeats 20000000 in
set_option maxRecDepth 100000 in
set_option maxHeartbeats 20000000 in
set_option maxRecDepth 100000 in
theorem vh_31_7 {sc : Nat × (Nat → Int32)} {C : CT} (hC : MonC C) {Q : Int32 → St → Prop} (v1 : Int32) (σ : St) (v : (60 ≤ v1 → ((1 : Int32) = 0 ∨ (1 : Int32) = 1) ∧ Q 1 σ) ∧ (¬ 60 ≤ v1 → ((σ 4 1) ≤ (σ 4 2) → ((1 : Int32) = 0 ∨ (1 : Int32) = 1) ∧ Q 1 σ) ∧ (¬ (σ 4 1) ≤ (σ 4 2) → C 32 [.ref 4] σ (fun r3 σ3 => (¬ r3 = 0 → Ex sc C 2 cd_31 Q 7 [some (.ref 4), some (.int (v1 + 1))] [] σ3) ∧ (r3 = 0 → ((0 : Int32) = 0 ∨ (0 : Int32) = 1) ∧ Q 0 σ3))))) : Ex sc C 2 cd_31 Q 7 [some (.ref 4), some (.int v1)] [] σ := stw_Ex (cuts := [7]) hC 14 v
theorem hl_31_7 {sc : Nat × (Nat → Int32)} {Q : Int32 → St → Prop} : ∀ (n : Nat) (v1 : Int32) (σ : St), Ap (lp_31_7 n v1 σ) Q → Ex sc CC 2 cd_31 Q 7 [some (.ref 4), some (.int v1)] [] σ := by
  intro n
  induction n with
  | zero => intro v1 σ h; exact n_no h
  | succ n ih =>
    intro v1 σ h
    exact vh_31_7 monCC v1 σ (n_if h (fun h => n_rb h) (fun h => n_if h (fun h => n_rb h) (fun h => cc_32 (n_bn h (fun r3 σ3 h => n_ne h (fun h => n_rb h) (fun h => ih (v1 + 1) σ3 h))))))
set_option maxHeartbeats 20000000 in
set_option maxRecDepth 100000 in
theorem ve_31 {sc : Nat × (Nat → Int32)} {C : CT} (hC : MonC C) {Q : Int32 → St → Prop}  (σ : St) (v : Ex sc C 2 cd_31 Q 7 [some (.ref 4), some (.int 0)] [] (up σ 4 2 0)) : Ex sc C 2 cd_31 Q 0 [some (.ref 4), none] [] σ := wpn_Ex (cuts := [7]) hC (fun _ _ _ _ z => z) 7 0 _ _ _ v
set_option maxHeartbeats 20000000 in
set_option maxRecDepth 100000 in
theorem hp_31 {sc : Nat × (Nat → Int32)} {Q : Int32 → St → Prop}  {σ : St} (h : Ap (sp_31  σ) Q) : Ex sc CC 2 cd_31 Q 0 [some (.ref 4), none] [] σ := by
  exact ve_31 monCC  σ (hl_31_7 FU 0 (up σ 4 2 0) h)
-- TradeTests$Plan.survey
set_option maxHeartbeats 20000000 in
set_option maxRecDepth 100000 in
set_option maxHeartbeats 20000000 in
set_option maxRecDepth 100000 in
theorem vh_49_12 {sc : Nat × (Nat → Int32)} {C : CT} (hC : MonC C) {Q : Int32 → St → Prop} (v1 : Int32) (v2 : Int32) (σ : St) (v : ((σ 3 14) ≤ v2 → Q 0 σ) ∧ (¬ (σ 3 14) ≤ v2 → C 24 [.ref 2, .ref 3, .int v2] σ (fun r9 σ9 => (¬ r9 = v1 → Ex sc C 0 cd_49 Q 12 [some (.ref 11), some (.int v1), some (.int (v2 + 1))] [] σ9) ∧ (r9 = v1 → C 50 [.ref 6, .int v2] σ9 (fun r10 σ10 => C 59 [.int r10] σ10 (fun r11 σ11 => C 60 [.ref 9, .int v2] (up σ11 11 6 ((σ9 11 6) + r11)) (fun r12 σ12 => Ex sc C 0 cd_49 Q 12 [some (.ref 11), some (.int v1), some (.int (v2 + 1))] [] (up σ12 11 7 ((σ11 11 7) ||| r12))))))))) : Ex sc C 0 cd_49 Q 12 [some (.ref 11), some (.int v1), some (.int v2)] [] σ := stw_Ex (cuts := [12]) hC 35 v
theorem hl_49_12 {sc : Nat × (Nat → Int32)} {Q : Int32 → St → Prop} : ∀ (n : Nat) (v1 : Int32) (v2 : Int32) (σ : St), Ap (lp_49_12 n v1 v2 σ) Q → Ex sc CC 0 cd_49 Q 12 [some (.ref 11), some (.int v1), some (.int v2)] [] σ := by
  intro n
  induction n with
  | zero => intro v1 v2 σ h; exact n_no h
  | succ n ih =>
    intro v1 v2 σ h
    exact vh_49_12 monCC v1 v2 σ (n_if h (fun h => n_rt h) (fun h => cc_24 (n_bn h (fun r9 σ9 h => n_ne h (fun h => cc_50 (n_bn h (fun r10 σ10 h => cc_59 (n_bn h (fun r11 σ11 h => cc_60 (n_bn h (fun r12 σ12 h => ih v1 (v2 + 1) (up σ12 11 7 ((σ11 11 7) ||| r12)) h))))))) (fun h => ih v1 (v2 + 1) σ9 h)))))
set_option maxHeartbeats 20000000 in
set_option maxRecDepth 100000 in
theorem ve_49 {sc : Nat × (Nat → Int32)} {C : CT} (hC : MonC C) {Q : Int32 → St → Prop} (x1 : Int32) (σ : St) (v : Ex sc C 0 cd_49 Q 12 [some (.ref 11), some (.int x1), some (.int 0)] [] (up (up σ 11 6 1) 11 7 0)) : Ex sc C 0 cd_49 Q 0 [some (.ref 11), some (.int x1), none] [] σ := wpn_Ex (cuts := [12]) hC (fun _ _ _ _ z => z) 10 0 _ _ _ v
set_option maxHeartbeats 20000000 in
set_option maxRecDepth 100000 in
theorem hp_49 {sc : Nat × (Nat → Int32)} {Q : Int32 → St → Prop} {x1 : Int32} {σ : St} (h : Ap (sp_49 x1 σ) Q) : Ex sc CC 0 cd_49 Q 0 [some (.ref 11), some (.int x1), none] [] σ := by
  exact ve_49 monCC x1 σ (hl_49_12 FU x1 0 (up (up σ 11 6 1) 11 7 0) h)
-- TradeTests$Rates.figure
set_option maxHeartbeats 20000000 in
set_option maxRecDepth 100000 in
theorem ve_62 {sc : Nat × (Nat → Int32)} {C : CT} (hC : MonC C) {Q : Int32 → St → Prop} (x1 x2 : Int32) (σ : St) (v : C 63 [.ref 7] σ (fun r9 σ9 => C 66 [.ref 7, .int x1] σ9 (fun r10 σ10 => (x2 = 0 → Q (σ10 7 5) σ10) ∧ (¬ x2 = 0 → (x2 = 1 → Q (σ10 7 6) σ10) ∧ (¬ x2 = 1 → (x2 = 2 → Q (σ10 7 7) σ10) ∧ (¬ x2 = 2 → (x2 = 3 → Q (σ10 7 8) σ10) ∧ (¬ x2 = 3 → (x2 = 4 → C 68 [.ref 7] σ10 (fun r12 σ12 => Q r12 σ12)) ∧ (¬ x2 = 4 → C 69 [.ref 7] σ10 (fun r11 σ11 => Q r11 σ11))))))))) : Ex sc C 1 cd_62 Q 0 [some (.ref 7), some (.int x1), some (.int x2)] [] σ := wpn_Ex (cuts := []) hC (fun _ _ _ _ z => z) 11 0 _ _ _ v
set_option maxHeartbeats 20000000 in
set_option maxRecDepth 100000 in
theorem hp_62 {sc : Nat × (Nat → Int32)} {Q : Int32 → St → Prop} {x1 x2 : Int32} {σ : St} (h : Ap (sp_62 x1 x2 σ) Q) : Ex sc CC 1 cd_62 Q 0 [some (.ref 7), some (.int x1), some (.int x2)] [] σ := by
  exact ve_62 monCC x1 x2 σ (cc_63 (n_bn h (fun r9 σ9 h => cc_66 (n_bn h (fun r10 σ10 h => n_if h (fun h => n_rt h) (fun h => n_if h (fun h => n_rt h) (fun h => n_if h (fun h => n_rt h) (fun h => n_if h (fun h => n_rt h) (fun h => n_if h (fun h => cc_68 (n_bn h (fun r12 σ12 h => n_rt h))) (fun h => cc_69 (n_bn h (fun r11 σ11 h => n_rt h))))))))))))
-- TradeTests.share
set_option maxHeartbeats 20000000 in
set_option maxRecDepth 100000 in
theorem ve_71 {sc : Nat × (Nat → Int32)} {C : CT} (hC : MonC C) {Q : Int32 → St → Prop} (x1 x2 : Int32) (σ : St) (v : C 1 [.int x1, .int 4] σ (fun r13 σ13 => (r13 = 0 → C 2 [.ref 0, .int 1] σ13 (fun r14 σ14 => Q r14 σ14)) ∧ (¬ r13 = 0 → C 1 [.int x2, .int 4] σ13 (fun r15 σ15 => (¬ r15 = 0 → C 72 [.ref 7, .int x1, .int x2] σ15 (fun r16 σ16 => (0 ≤ r16 → Q r16 σ16) ∧ (¬ 0 ≤ r16 → C 2 [.ref 0, .int 2] σ16 (fun r17 σ17 => Q r17 σ17)))) ∧ (r15 = 0 → C 2 [.ref 0, .int 1] σ15 (fun r18 σ18 => Q r18 σ18)))))) : Ex sc C 1 cd_71 Q 0 [some (.ref 0), some (.int x1), some (.int x2), none] [] σ := wpn_Ex (cuts := []) hC (fun _ _ _ _ z => z) 22 0 _ _ _ v
set_option maxHeartbeats 20000000 in
set_option maxRecDepth 100000 in
theorem hp_71 {sc : Nat × (Nat → Int32)} {Q : Int32 → St → Prop} {x1 x2 : Int32} {σ : St} (h : Ap (sp_71 x1 x2 σ) Q) : Ex sc CC 1 cd_71 Q 0 [some (.ref 0), some (.int x1), some (.int x2), none] [] σ := by
  exact ve_71 monCC x1 x2 σ (cc_1 (n_bn h (fun r13 σ13 h => n_if h (fun h => cc_2 (n_bn h (fun r14 σ14 h => n_rt h))) (fun h => cc_1 (n_bn h (fun r15 σ15 h => n_ne h (fun h => cc_2 (n_bn h (fun r18 σ18 h => n_rt h))) (fun h => cc_72 (n_bn h (fun r16 σ16 h => n_if h (fun h => n_rt h) (fun h => cc_2 (n_bn h (fun r17 σ17 h => n_rt h))))))))))))
-- TradeTests.signs
set_option maxHeartbeats 20000000 in
set_option maxRecDepth 100000 in
theorem ve_73 {sc : Nat × (Nat → Int32)} {C : CT} (hC : MonC C) {Q : Int32 → St → Prop} (x1 : Int32) (σ : St) (v : C 1 [.int x1, .int (σ 3 14)] σ (fun r7 σ7 => (¬ r7 = 0 → C 50 [.ref 6, .int x1] σ7 (fun r8 σ8 => Q r8 σ8)) ∧ (r7 = 0 → C 2 [.ref 0, .int 1] σ7 (fun r9 σ9 => Q r9 σ9)))) : Ex sc C 1 cd_73 Q 0 [some (.ref 0), some (.int x1)] [] σ := wpn_Ex (cuts := []) hC (fun _ _ _ _ z => z) 12 0 _ _ _ v
set_option maxHeartbeats 20000000 in
set_option maxRecDepth 100000 in
theorem hp_73 {sc : Nat × (Nat → Int32)} {Q : Int32 → St → Prop} {x1 : Int32} {σ : St} (h : Ap (sp_73 x1 σ) Q) : Ex sc CC 1 cd_73 Q 0 [some (.ref 0), some (.int x1)] [] σ := by
  exact ve_73 monCC x1 σ (cc_1 (n_bn h (fun r7 σ7 h => n_ne h (fun h => cc_2 (n_bn h (fun r9 σ9 h => n_rt h))) (fun h => cc_50 (n_bn h (fun r8 σ8 h => n_rt h))))))
-- TradeTests.points
set_option maxHeartbeats 20000000 in
set_option maxRecDepth 100000 in
theorem ve_84 {sc : Nat × (Nat → Int32)} {C : CT} (hC : MonC C) {Q : Int32 → St → Prop} (x1 : Int32) (σ : St) (v : C 1 [.int x1, .int (σ 3 14)] σ (fun r7 σ7 => (¬ r7 = 0 → C 85 [.ref 10, .int x1] σ7 (fun r8 σ8 => Q r8 σ8)) ∧ (r7 = 0 → C 2 [.ref 0, .int 1] σ7 (fun r9 σ9 => Q r9 σ9)))) : Ex sc C 1 cd_84 Q 0 [some (.ref 0), some (.int x1)] [] σ := wpn_Ex (cuts := []) hC (fun _ _ _ _ z => z) 12 0 _ _ _ v
set_option maxHeartbeats 20000000 in
set_option maxRecDepth 100000 in
theorem hp_84 {sc : Nat × (Nat → Int32)} {Q : Int32 → St → Prop} {x1 : Int32} {σ : St} (h : Ap (sp_84 x1 σ) Q) : Ex sc CC 1 cd_84 Q 0 [some (.ref 0), some (.int x1)] [] σ := by
  exact ve_84 monCC x1 σ (cc_1 (n_bn h (fun r7 σ7 h => n_ne h (fun h => cc_2 (n_bn h (fun r9 σ9 h => n_rt h))) (fun h => cc_85 (n_bn h (fun r8 σ8 h => n_rt h))))))
-- TradeTests$Penalties.fillPoints
set_option maxHeartbeats 20000000 in
set_option maxRecDepth 100000 in
set_option maxHeartbeats 20000000 in
set_option maxRecDepth 100000 in
theorem vh_89_2 {sc : Nat × (Nat → Int32)} {C : CT} (hC : MonC C) {Q : Int32 → St → Prop} (v1 : Int32) (v2 : Int32) (σ : St) (v : ((σ 3 14) ≤ v2 → Q 0 σ) ∧ (¬ (σ 3 14) ≤ v2 → vp_in v2 80 ∧ ((¬ (σ 25 (v2).toNatClampNeg) = v1 → vp_in v2 80 ∧ (Ex sc C 0 cd_89 Q 2 [some (.ref 10), some (.int v1), some (.int (v2 + 1))] [] (up σ 47 (v2).toNatClampNeg 0))) ∧ ((σ 25 (v2).toNatClampNeg) = v1 → C 85 [.ref 10, .int v2] σ (fun r3 σ3 => vp_in v2 80 ∧ (Ex sc C 0 cd_89 Q 2 [some (.ref 10), some (.int v1), some (.int (v2 + 1))] [] (up σ3 47 (v2).toNatClampNeg r3))))))) : Ex sc C 0 cd_89 Q 2 [some (.ref 10), some (.int v1), some (.int v2)] [] σ := stw_Ex (cuts := [2]) hC 23 v
theorem hl_89_2 {sc : Nat × (Nat → Int32)} {Q : Int32 → St → Prop} : ∀ (n : Nat) (v1 : Int32) (v2 : Int32) (σ : St), Ap (lp_89_2 n v1 v2 σ) Q → Ex sc CC 0 cd_89 Q 2 [some (.ref 10), some (.int v1), some (.int v2)] [] σ := by
  intro n
  induction n with
  | zero => intro v1 v2 σ h; exact n_no h
  | succ n ih =>
    intro v1 v2 σ h
    exact vh_89_2 monCC v1 v2 σ (n_if h (fun h => n_rt h) (fun h => n_mb h (fun h => n_ne h (fun h => cc_85 (n_bn h (fun r3 σ3 h => n_mb h (fun h => ih v1 (v2 + 1) (up σ3 47 (v2).toNatClampNeg r3) h)))) (fun h => n_mb h (fun h => ih v1 (v2 + 1) (up σ 47 (v2).toNatClampNeg 0) h)))))
set_option maxHeartbeats 20000000 in
set_option maxRecDepth 100000 in
theorem ve_89 {sc : Nat × (Nat → Int32)} {C : CT} (hC : MonC C) {Q : Int32 → St → Prop} (x1 : Int32) (σ : St) (v : Ex sc C 0 cd_89 Q 2 [some (.ref 10), some (.int x1), some (.int 0)] [] σ) : Ex sc C 0 cd_89 Q 0 [some (.ref 10), some (.int x1), none] [] σ := wpn_Ex (cuts := [2]) hC (fun _ _ _ _ z => z) 4 0 _ _ _ v
set_option maxHeartbeats 20000000 in
set_option maxRecDepth 100000 in
theorem hp_89 {sc : Nat × (Nat → Int32)} {Q : Int32 → St → Prop} {x1 : Int32} {σ : St} (h : Ap (sp_89 x1 σ) Q) : Ex sc CC 0 cd_89 Q 0 [some (.ref 10), some (.int x1), none] [] σ := by
  exact ve_89 monCC x1 σ (hl_89_2 FU x1 0 σ h)
