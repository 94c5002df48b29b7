/-! the code does what the functions say (written by wip/whole/gen/spec.py) -/
-- TradeTestsModel.count
set_option maxHeartbeats 20000000 in
set_option maxRecDepth 100000 in
set_option maxHeartbeats 20000000 in
set_option maxRecDepth 100000 in
theorem vh_193_112 {sc : Nat × (Nat → Int32)} {C : CT} (hC : MonC C) {Q : Int32 → St → Prop} (v1 : Int32) (v2 : Int32) (v3 : Int32) (σ : St) (v : ((σ 12 4) ≤ v3 → Q v2 σ) ∧ (¬ (σ 12 4) ≤ v3 → C 162 [.ref 12, .int v3] σ (fun r5 σ5 => (r5 ≤ 0 → Ex sc C 1 cd_193 Q 112 [some (.ref 12), some (.int v1), some (.int (v2 + 0)), some (.int (v3 + 1))] [] σ5) ∧ (¬ r5 ≤ 0 → Ex sc C 1 cd_193 Q 112 [some (.ref 12), some (.int v1), some (.int (v2 + 1)), some (.int (v3 + 1))] [] σ5)))) : Ex sc C 1 cd_193 Q 112 [some (.ref 12), some (.int v1), some (.int v2), some (.int v3)] [] σ := stw_Ex (cuts := [112]) hC 16 v
theorem hl_193_112 {sc : Nat × (Nat → Int32)} {Q : Int32 → St → Prop} : ∀ (n : Nat) (v1 : Int32) (v2 : Int32) (v3 : Int32) (σ : St), Ap (lp_193_112 n v1 v2 v3 σ) Q → Ex sc CC 1 cd_193 Q 112 [some (.ref 12), some (.int v1), some (.int v2), some (.int v3)] [] σ := by
  intro n
  induction n with
  | zero => intro v1 v2 v3 σ h; exact n_no h
  | succ n ih =>
    intro v1 v2 v3 σ h
    exact vh_193_112 monCC v1 v2 v3 σ (n_if h (fun h => n_rt h) (fun h => cc_162 (n_bn h (fun r5 σ5 h => n_if h (fun h => ih v1 (v2 + 0) (v3 + 1) σ5 h) (fun h => ih v1 (v2 + 1) (v3 + 1) σ5 h)))))
set_option maxHeartbeats 20000000 in
set_option maxRecDepth 100000 in
theorem ve_193 {sc : Nat × (Nat → Int32)} {C : CT} (hC : MonC C) {Q : Int32 → St → Prop} (x1 : Int32) (σ : St) (v : (x1 = 0 → Q (σ 12 0) σ) ∧ (¬ x1 = 0 → (x1 = 1 → Q (σ 12 1) σ) ∧ (¬ x1 = 1 → (x1 = 2 → Q (σ 12 2) σ) ∧ (¬ x1 = 2 → (x1 = 3 → Q (σ 12 4) σ) ∧ (¬ x1 = 3 → (x1 = 4 → Q (σ 12 5) σ) ∧ (¬ x1 = 4 → (x1 = 5 → Q (σ 12 6) σ) ∧ (¬ x1 = 5 → (x1 = 6 → Q (σ 12 7) σ) ∧ (¬ x1 = 6 → (x1 = 7 → Q (σ 12 8) σ) ∧ (¬ x1 = 7 → (x1 = 8 → Q (σ 12 9) σ) ∧ (¬ x1 = 8 → (x1 = 9 → Q (σ 12 10) σ) ∧ (¬ x1 = 9 → (x1 = 10 → Ex sc C 1 cd_193 Q 112 [some (.ref 12), some (.int x1), some (.int 0), some (.int 0)] [] σ) ∧ (¬ x1 = 10 → C 125 [.ref 12, .int 1] σ (fun r6 σ6 => Q r6 σ6))))))))))))) : Ex sc C 1 cd_193 Q 0 [some (.ref 12), some (.int x1), none, none] [] σ := wpn_Ex (cuts := [112]) hC (fun _ _ _ _ z => z) 9 0 _ _ _ v
set_option maxHeartbeats 20000000 in
set_option maxRecDepth 100000 in
theorem hp_193 {sc : Nat × (Nat → Int32)} {Q : Int32 → St → Prop} {x1 : Int32} {σ : St} (h : Ap (sp_193 x1 σ) Q) : Ex sc CC 1 cd_193 Q 0 [some (.ref 12), some (.int x1), none, none] [] σ := by
  exact ve_193 monCC x1 σ (n_if h (fun h => n_rt h) (fun h => n_if h (fun h => n_rt h) (fun h => n_if h (fun h => n_rt h) (fun h => n_if h (fun h => n_rt h) (fun h => n_if h (fun h => n_rt h) (fun h => n_if h (fun h => n_rt h) (fun h => n_if h (fun h => n_rt h) (fun h => n_if h (fun h => n_rt h) (fun h => n_if h (fun h => n_rt h) (fun h => n_if h (fun h => n_rt h) (fun h => n_if h (fun h => hl_193_112 FU x1 0 0 σ h) (fun h => cc_125 (n_bn h (fun r6 σ6 h => n_rt h))))))))))))))
-- TradeTests$Texts.takeTape
set_option maxHeartbeats 20000000 in
set_option maxRecDepth 100000 in
theorem ve_29 {sc : Nat × (Nat → Int32)} {C : CT} (hC : MonC C) {Q : Int32 → St → Prop} (x1 : Int32) (σ : St) (v : C 30 [.ref 4] σ (fun r5 σ5 => C 31 [.ref 4] σ5 (fun r6 σ6 => (¬ r6 = 0 → vp_in (σ6 4 7) 6 ∧ (Q (-1) (up (up (up σ6 4 1 0) 39 (σ6 4 7).toNatClampNeg x1) 4 7 ((σ6 4 7) + 1)))) ∧ (r6 = 0 → Q (σ6 4 2) (up σ6 4 1 0))))) : Ex sc C 1 cd_29 Q 0 [some (.ref 4), some (.int x1), none] [] σ := wpn_Ex (cuts := []) hC (fun _ _ _ _ z => z) 25 0 _ _ _ v
set_option maxHeartbeats 20000000 in
set_option maxRecDepth 100000 in
theorem hp_29 {sc : Nat × (Nat → Int32)} {Q : Int32 → St → Prop} {x1 : Int32} {σ : St} (h : Ap (sp_29 x1 σ) Q) : Ex sc CC 1 cd_29 Q 0 [some (.ref 4), some (.int x1), none] [] σ := by
  exact ve_29 monCC x1 σ (cc_30 (n_bn h (fun r5 σ5 h => cc_31 (n_bn h (fun r6 σ6 h => n_ne h (fun h => n_rt h) (fun h => n_mb h (fun h => n_rt h)))))))
-- TradeTests$Plan.riskOf
set_option maxHeartbeats 20000000 in
set_option maxRecDepth 100000 in
theorem ve_48 {sc : Nat × (Nat → Int32)} {C : CT} (hC : MonC C) {Q : Int32 → St → Prop} (x1 : Int32) (σ : St) (v : C 49 [.ref 11, .int x1] σ (fun r3 σ3 => Q (σ3 11 6) σ3)) : Ex sc C 1 cd_48 Q 0 [some (.ref 11), some (.int x1)] [] σ := wpn_Ex (cuts := []) hC (fun _ _ _ _ z => z) 7 0 _ _ _ v
set_option maxHeartbeats 20000000 in
set_option maxRecDepth 100000 in
theorem hp_48 {sc : Nat × (Nat → Int32)} {Q : Int32 → St → Prop} {x1 : Int32} {σ : St} (h : Ap (sp_48 x1 σ) Q) : Ex sc CC 1 cd_48 Q 0 [some (.ref 11), some (.int x1)] [] σ := by
  exact ve_48 monCC x1 σ (cc_49 (n_bn h (fun r3 σ3 h => n_rt h)))
-- TradeTests$Penalties.ofTester
set_option maxHeartbeats 20000000 in
set_option maxRecDepth 100000 in
theorem ve_88 {sc : Nat × (Nat → Int32)} {C : CT} (hC : MonC C) {Q : Int32 → St → Prop} (x1 x2 : Int32) (σ : St) (v : C 89 [.ref 10, .int x1] σ (fun r5 σ5 => C 90 [.ref 10, .int x2] σ5 (fun r6 σ6 => Q r6 σ6))) : Ex sc C 1 cd_88 Q 0 [some (.ref 10), some (.int x1), some (.int x2)] [] σ := wpn_Ex (cuts := []) hC (fun _ _ _ _ z => z) 8 0 _ _ _ v
set_option maxHeartbeats 20000000 in
set_option maxRecDepth 100000 in
theorem hp_88 {sc : Nat × (Nat → Int32)} {Q : Int32 → St → Prop} {x1 x2 : Int32} {σ : St} (h : Ap (sp_88 x1 x2 σ) Q) : Ex sc CC 1 cd_88 Q 0 [some (.ref 10), some (.int x1), some (.int x2)] [] σ := by
  exact ve_88 monCC x1 x2 σ (cc_89 (n_bn h (fun r5 σ5 h => cc_90 (n_bn h (fun r6 σ6 h => n_rt h)))))
-- TradeTests$Penalties.isBanned
set_option maxHeartbeats 20000000 in
set_option maxRecDepth 100000 in
set_option maxHeartbeats 20000000 in
set_option maxRecDepth 100000 in
theorem vh_92_35 {sc : Nat × (Nat → Int32)} {C : CT} (hC : MonC C) {Q : Int32 → St → Prop} (v1 : Int32) (v2 : Int32) (v3 : Int32) (v4 : Int32) (σ : St) (v : ((σ 3 14) ≤ v4 → ((0 : Int32) = 0 ∨ (0 : Int32) = 1) ∧ Q 0 σ) ∧ (¬ (σ 3 14) ≤ v4 → vp_in v4 80 ∧ (((σ 26 (v4).toNatClampNeg) ≤ v3 → ((0 : Int32) = 0 → Ex sc C 2 cd_92 Q 35 [some (.ref 10), some (.int v1), some (.int v2), some (.int v3), some (.int (v4 + 1)), some (.int 0)] [] σ) ∧ (¬ (0 : Int32) = 0 → vp_in v4 80 ∧ (((σ 47 (v4).toNatClampNeg) ≤ 0 → Ex sc C 2 cd_92 Q 35 [some (.ref 10), some (.int v1), some (.int v2), some (.int v3), some (.int (v4 + 1)), some (.int 0)] [] σ) ∧ (¬ (σ 47 (v4).toNatClampNeg) ≤ 0 → vp_in v4 80 ∧ (C 90 [.ref 10, .int (σ 26 (v4).toNatClampNeg)] σ (fun r11 σ11 => vp_in 2 3 ∧ ((r11 < (σ11 46 (2 : Int32).toNatClampNeg) → Ex sc C 2 cd_92 Q 35 [some (.ref 10), some (.int v1), some (.int v2), some (.int v3), some (.int (v4 + 1)), some (.int 0)] [] σ11) ∧ (¬ r11 < (σ11 46 (2 : Int32).toNatClampNeg) → ((1 : Int32) = 0 ∨ (1 : Int32) = 1) ∧ Q 1 σ11)))))))) ∧ (¬ (σ 26 (v4).toNatClampNeg) ≤ v3 → vp_in v4 80 ∧ ((v2 < (σ 26 (v4).toNatClampNeg) → ((0 : Int32) = 0 → Ex sc C 2 cd_92 Q 35 [some (.ref 10), some (.int v1), some (.int v2), some (.int v3), some (.int (v4 + 1)), some (.int 0)] [] σ) ∧ (¬ (0 : Int32) = 0 → vp_in v4 80 ∧ (((σ 47 (v4).toNatClampNeg) ≤ 0 → Ex sc C 2 cd_92 Q 35 [some (.ref 10), some (.int v1), some (.int v2), some (.int v3), some (.int (v4 + 1)), some (.int 0)] [] σ) ∧ (¬ (σ 47 (v4).toNatClampNeg) ≤ 0 → vp_in v4 80 ∧ (C 90 [.ref 10, .int (σ 26 (v4).toNatClampNeg)] σ (fun r12 σ12 => vp_in 2 3 ∧ ((r12 < (σ12 46 (2 : Int32).toNatClampNeg) → Ex sc C 2 cd_92 Q 35 [some (.ref 10), some (.int v1), some (.int v2), some (.int v3), some (.int (v4 + 1)), some (.int 0)] [] σ12) ∧ (¬ r12 < (σ12 46 (2 : Int32).toNatClampNeg) → ((1 : Int32) = 0 ∨ (1 : Int32) = 1) ∧ Q 1 σ12)))))))) ∧ (¬ v2 < (σ 26 (v4).toNatClampNeg) → ((1 : Int32) = 0 → Ex sc C 2 cd_92 Q 35 [some (.ref 10), some (.int v1), some (.int v2), some (.int v3), some (.int (v4 + 1)), some (.int 1)] [] σ) ∧ (¬ (1 : Int32) = 0 → vp_in v4 80 ∧ (((σ 47 (v4).toNatClampNeg) ≤ 0 → Ex sc C 2 cd_92 Q 35 [some (.ref 10), some (.int v1), some (.int v2), some (.int v3), some (.int (v4 + 1)), some (.int 1)] [] σ) ∧ (¬ (σ 47 (v4).toNatClampNeg) ≤ 0 → vp_in v4 80 ∧ (C 90 [.ref 10, .int (σ 26 (v4).toNatClampNeg)] σ (fun r13 σ13 => vp_in 2 3 ∧ ((r13 < (σ13 46 (2 : Int32).toNatClampNeg) → Ex sc C 2 cd_92 Q 35 [some (.ref 10), some (.int v1), some (.int v2), some (.int v3), some (.int (v4 + 1)), some (.int 1)] [] σ13) ∧ (¬ r13 < (σ13 46 (2 : Int32).toNatClampNeg) → ((1 : Int32) = 0 ∨ (1 : Int32) = 1) ∧ Q 1 σ13))))))))))))) : Ex sc C 2 cd_92 Q 35 [some (.ref 10), some (.int v1), some (.int v2), some (.int v3), some (.int v4), none] [] σ := stw_Ex (cuts := [35]) hC 44 v
theorem hl_92_35 {sc : Nat × (Nat → Int32)} {Q : Int32 → St → Prop} : ∀ (n : Nat) (v1 : Int32) (v2 : Int32) (v3 : Int32) (v4 : Int32) (σ : St), Ap (lp_92_35 n v1 v2 v3 v4 σ) Q → Ex sc CC 2 cd_92 Q 35 [some (.ref 10), some (.int v1), some (.int v2), some (.int v3), some (.int v4), none] [] σ := by
  intro n
  induction n with
  | zero => intro v1 v2 v3 v4 σ h; exact n_no h
  | succ n ih =>
    intro v1 v2 v3 v4 σ h
    exact vh_92_35 monCC v1 v2 v3 v4 σ (n_if h (fun h => n_rb h) (fun h => n_mb h (fun h => n_if h (fun h => n_if h (fun h => Ex_fg [true, true, true, true, true, false] (ih v1 v2 v3 (v4 + 1) σ h)) (fun h => n_mb h (fun h => n_if h (fun h => Ex_fg [true, true, true, true, true, false] (ih v1 v2 v3 (v4 + 1) σ h)) (fun h => n_mb h (fun h => cc_90 (n_bn h (fun r11 σ11 h => n_mb h (fun h => n_if h (fun h => Ex_fg [true, true, true, true, true, false] (ih v1 v2 v3 (v4 + 1) σ11 h)) (fun h => n_rb h))))))))) (fun h => n_mb h (fun h => n_if h (fun h => n_if h (fun h => Ex_fg [true, true, true, true, true, false] (ih v1 v2 v3 (v4 + 1) σ h)) (fun h => n_mb h (fun h => n_if h (fun h => Ex_fg [true, true, true, true, true, false] (ih v1 v2 v3 (v4 + 1) σ h)) (fun h => n_mb h (fun h => cc_90 (n_bn h (fun r12 σ12 h => n_mb h (fun h => n_if h (fun h => Ex_fg [true, true, true, true, true, false] (ih v1 v2 v3 (v4 + 1) σ12 h)) (fun h => n_rb h))))))))) (fun h => n_if h (fun h => Ex_fg [true, true, true, true, true, false] (ih v1 v2 v3 (v4 + 1) σ h)) (fun h => n_mb h (fun h => n_if h (fun h => Ex_fg [true, true, true, true, true, false] (ih v1 v2 v3 (v4 + 1) σ h)) (fun h => n_mb h (fun h => cc_90 (n_bn h (fun r13 σ13 h => n_mb h (fun h => n_if h (fun h => Ex_fg [true, true, true, true, true, false] (ih v1 v2 v3 (v4 + 1) σ13 h)) (fun h => n_rb h))))))))))))))
set_option maxHeartbeats 20000000 in
set_option maxRecDepth 100000 in
theorem ve_92 {sc : Nat × (Nat → Int32)} {C : CT} (hC : MonC C) {Q : Int32 → St → Prop} (x1 x2 : Int32) (σ : St) (v : C 89 [.ref 10, .int x1] σ (fun r14 σ14 => vp_in 1 3 ∧ (C 90 [.ref 10, .int ((x2 - (σ14 46 (1 : Int32).toNatClampNeg)) + 1)] σ14 (fun r15 σ15 => vp_in 2 3 ∧ ((r15 < (σ15 46 (2 : Int32).toNatClampNeg) → Ex sc C 2 cd_92 Q 35 [some (.ref 10), some (.int x1), some (.int x2), some (.int ((x2 - (σ14 46 (1 : Int32).toNatClampNeg)) + 1)), some (.int 0), none] [] σ15) ∧ (¬ r15 < (σ15 46 (2 : Int32).toNatClampNeg) → ((1 : Int32) = 0 ∨ (1 : Int32) = 1) ∧ Q 1 σ15)))))) : Ex sc C 2 cd_92 Q 0 [some (.ref 10), some (.int x1), some (.int x2), none, none, none] [] σ := wpn_Ex (cuts := [35]) hC (fun _ _ _ _ z => z) 24 0 _ _ _ v
set_option maxHeartbeats 20000000 in
set_option maxRecDepth 100000 in
theorem hp_92 {sc : Nat × (Nat → Int32)} {Q : Int32 → St → Prop} {x1 x2 : Int32} {σ : St} (h : Ap (sp_92 x1 x2 σ) Q) : Ex sc CC 2 cd_92 Q 0 [some (.ref 10), some (.int x1), some (.int x2), none, none, none] [] σ := by
  exact ve_92 monCC x1 x2 σ (cc_89 (n_bn h (fun r14 σ14 h => n_mb h (fun h => cc_90 (n_bn h (fun r15 σ15 h => n_mb h (fun h => n_if h (fun h => hl_92_35 FU x1 x2 ((x2 - (σ14 46 (1 : Int32).toNatClampNeg)) + 1) 0 σ15 h) (fun h => n_rb h))))))))
-- TradeTests$Plan.worthOf
set_option maxHeartbeats 20000000 in
set_option maxRecDepth 100000 in
theorem ve_98 {sc : Nat × (Nat → Int32)} {C : CT} (hC : MonC C) {Q : Int32 → St → Prop} (x1 x2 : Int32) (σ : St) (v : C 49 [.ref 11, .int x2] σ (fun r5 σ5 => C 99 [.ref 11, .int x1] σ5 (fun r6 σ6 => Q ((σ5 11 6) * r6) σ6))) : Ex sc C 1 cd_98 Q 0 [some (.ref 11), some (.int x1), some (.int x2)] [] σ := wpn_Ex (cuts := []) hC (fun _ _ _ _ z => z) 11 0 _ _ _ v
set_option maxHeartbeats 20000000 in
set_option maxRecDepth 100000 in
theorem hp_98 {sc : Nat × (Nat → Int32)} {Q : Int32 → St → Prop} {x1 x2 : Int32} {σ : St} (h : Ap (sp_98 x1 x2 σ) Q) : Ex sc CC 1 cd_98 Q 0 [some (.ref 11), some (.int x1), some (.int x2)] [] σ := by
  exact ve_98 monCC x1 x2 σ (cc_49 (n_bn h (fun r5 σ5 h => cc_99 (n_bn h (fun r6 σ6 h => n_rt h)))))
