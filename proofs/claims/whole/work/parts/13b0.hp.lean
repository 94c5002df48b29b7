/-! the code does what the functions say (written by wip/whole/gen/spec.py) -/
-- TradeTestsModel.readsNumber
set_option maxHeartbeats 20000000 in
set_option maxRecDepth 100000 in
set_option maxHeartbeats 20000000 in
set_option maxRecDepth 100000 in
theorem vh_147_4 {sc : Nat × (Nat → Int32)} {C : CT} (hC : MonC C) {Q : Int32 → St → Prop} (v1 : Int32) (v2 : Int32) (v3 : Int32) (σ : St) (v : (v1 ≤ v3 → (v3 = 0 → Q (-1) σ) ∧ (¬ v3 = 0 → C 145 [.ref 12] σ (fun r11 σ11 => (r11 = 59 → Q v2 (up σ11 12 45 ((σ11 12 45) + 1))) ∧ (¬ r11 = 59 → Q (-1) σ11)))) ∧ (¬ v1 ≤ v3 → C 145 [.ref 12] σ (fun r12 σ12 => C 148 [.int r12] σ12 (fun r13 σ13 => (r13 = 0 → (v3 = 0 → Q (-1) σ13) ∧ (¬ v3 = 0 → C 145 [.ref 12] σ13 (fun r14 σ14 => (r14 = 59 → Q v2 (up σ14 12 45 ((σ14 12 45) + 1))) ∧ (¬ r14 = 59 → Q (-1) σ14)))) ∧ (¬ r13 = 0 → C 145 [.ref 12] σ13 (fun r15 σ15 => Ex sc C 1 cd_147 Q 4 [some (.ref 12), some (.int v1), some (.int ((((10 : Int32) * v2) + r15) - 48)), some (.int (v3 + 1))] [] (up σ15 12 45 ((σ15 12 45) + 1)))))))) : Ex sc C 1 cd_147 Q 4 [some (.ref 12), some (.int v1), some (.int v2), some (.int v3)] [] σ := stw_Ex (cuts := [4]) hC 25 v
theorem hl_147_4 {sc : Nat × (Nat → Int32)} {Q : Int32 → St → Prop} : ∀ (n : Nat) (v1 : Int32) (v2 : Int32) (v3 : Int32) (σ : St), Ap (lp_147_4 n v1 v2 v3 σ) Q → Ex sc CC 1 cd_147 Q 4 [some (.ref 12), some (.int v1), some (.int v2), some (.int v3)] [] σ := by
  intro n
  induction n with
  | zero => intro v1 v2 v3 σ h; exact n_no h
  | succ n ih =>
    intro v1 v2 v3 σ h
    exact vh_147_4 monCC v1 v2 v3 σ (n_if h (fun h => n_if h (fun h => n_rt h) (fun h => cc_145 (n_bn h (fun r11 σ11 h => n_if h (fun h => n_rt h) (fun h => n_rt h))))) (fun h => cc_145 (n_bn h (fun r12 σ12 h => cc_148 (n_bn h (fun r13 σ13 h => n_if h (fun h => n_if h (fun h => n_rt h) (fun h => cc_145 (n_bn h (fun r14 σ14 h => n_if h (fun h => n_rt h) (fun h => n_rt h))))) (fun h => cc_145 (n_bn h (fun r15 σ15 h => ih v1 ((((10 : Int32) * v2) + r15) - 48) (v3 + 1) (up σ15 12 45 ((σ15 12 45) + 1)) h)))))))))
set_option maxHeartbeats 20000000 in
set_option maxRecDepth 100000 in
theorem ve_147 {sc : Nat × (Nat → Int32)} {C : CT} (hC : MonC C) {Q : Int32 → St → Prop} (x1 : Int32) (σ : St) (v : Ex sc C 1 cd_147 Q 4 [some (.ref 12), some (.int x1), some (.int 0), some (.int 0)] [] σ) : Ex sc C 1 cd_147 Q 0 [some (.ref 12), some (.int x1), none, none] [] σ := wpn_Ex (cuts := [4]) hC (fun _ _ _ _ z => z) 6 0 _ _ _ v
set_option maxHeartbeats 20000000 in
set_option maxRecDepth 100000 in
theorem hp_147 {sc : Nat × (Nat → Int32)} {Q : Int32 → St → Prop} {x1 : Int32} {σ : St} (h : Ap (sp_147 x1 σ) Q) : Ex sc CC 1 cd_147 Q 0 [some (.ref 12), some (.int x1), none, none] [] σ := by
  exact ve_147 monCC x1 σ (hl_147_4 FU x1 0 0 σ h)
-- TradeTestsModel.isPass
set_option maxHeartbeats 20000000 in
set_option maxRecDepth 100000 in
theorem ve_152 {sc : Nat × (Nat → Int32)} {C : CT} (hC : MonC C) {Q : Int32 → St → Prop} (x1 : Int32) (σ : St) (v : vp_in x1 80 ∧ (C 150 [.ref 12, .int (σ 61 (x1).toNatClampNeg)] σ (fun r3 σ3 => vp_in x1 80 ∧ (vp_in (σ3 59 (x1).toNatClampNeg) 24 ∧ ((0 ≤ r3 → vp_in x1 80 ∧ (vp_in (((4 : Int32) * r3) + (σ3 50 (σ3 59 (x1).toNatClampNeg).toNatClampNeg)) 28 ∧ ((((σ3 67 (x1).toNatClampNeg) &&& (σ3 76 (((4 : Int32) * r3) + (σ3 50 (σ3 59 (x1).toNatClampNeg).toNatClampNeg)).toNatClampNeg)) = 0 → (¬ (σ3 50 (σ3 59 (x1).toNatClampNeg).toNatClampNeg) = 3 → vp_in x1 80 ∧ (vp_in x1 80 ∧ (((σ3 66 (x1).toNatClampNeg) ≤ (σ3 65 (x1).toNatClampNeg) → vp_in x1 80 ∧ (vp_in x1 80 ∧ (vp_in x1 80 ∧ (((σ3 66 (x1).toNatClampNeg) ≤ (σ3 65 (x1).toNatClampNeg) → vp_in x1 80 ∧ (vp_in r3 7 ∧ (((σ3 66 (x1).toNatClampNeg) < (σ3 74 (r3).toNatClampNeg) → ((0 : Int32) = 0 ∨ (0 : Int32) = 1) ∧ Q 0 σ3) ∧ (¬ (σ3 66 (x1).toNatClampNeg) < (σ3 74 (r3).toNatClampNeg) → vp_in r3 7 ∧ ((((100 : Int32) * (σ3 66 (x1).toNatClampNeg)) < (((100 : Int32) - (σ3 75 (r3).toNatClampNeg)) * (σ3 65 (x1).toNatClampNeg)) → ((0 : Int32) = 0 ∨ (0 : Int32) = 1) ∧ Q 0 σ3) ∧ (¬ ((100 : Int32) * (σ3 66 (x1).toNatClampNeg)) < (((100 : Int32) - (σ3 75 (r3).toNatClampNeg)) * (σ3 65 (x1).toNatClampNeg)) → ((1 : Int32) = 0 ∨ (1 : Int32) = 1) ∧ Q 1 σ3)))))) ∧ (¬ (σ3 66 (x1).toNatClampNeg) ≤ (σ3 65 (x1).toNatClampNeg) → vp_in x1 80 ∧ (vp_in r3 7 ∧ (((σ3 66 (x1).toNatClampNeg) < (σ3 74 (r3).toNatClampNeg) → ((0 : Int32) = 0 ∨ (0 : Int32) = 1) ∧ Q 0 σ3) ∧ (¬ (σ3 66 (x1).toNatClampNeg) < (σ3 74 (r3).toNatClampNeg) → vp_in r3 7 ∧ ((((100 : Int32) * (σ3 66 (x1).toNatClampNeg)) < (((100 : Int32) - (σ3 75 (r3).toNatClampNeg)) * (σ3 66 (x1).toNatClampNeg)) → ((0 : Int32) = 0 ∨ (0 : Int32) = 1) ∧ Q 0 σ3) ∧ (¬ ((100 : Int32) * (σ3 66 (x1).toNatClampNeg)) < (((100 : Int32) - (σ3 75 (r3).toNatClampNeg)) * (σ3 66 (x1).toNatClampNeg)) → ((1 : Int32) = 0 ∨ (1 : Int32) = 1) ∧ Q 1 σ3)))))))))) ∧ (¬ (σ3 66 (x1).toNatClampNeg) ≤ (σ3 65 (x1).toNatClampNeg) → vp_in x1 80 ∧ (vp_in x1 80 ∧ (vp_in x1 80 ∧ (((σ3 66 (x1).toNatClampNeg) ≤ (σ3 65 (x1).toNatClampNeg) → vp_in x1 80 ∧ (vp_in r3 7 ∧ (((σ3 65 (x1).toNatClampNeg) < (σ3 74 (r3).toNatClampNeg) → ((0 : Int32) = 0 ∨ (0 : Int32) = 1) ∧ Q 0 σ3) ∧ (¬ (σ3 65 (x1).toNatClampNeg) < (σ3 74 (r3).toNatClampNeg) → vp_in r3 7 ∧ ((((100 : Int32) * (σ3 65 (x1).toNatClampNeg)) < (((100 : Int32) - (σ3 75 (r3).toNatClampNeg)) * (σ3 65 (x1).toNatClampNeg)) → ((0 : Int32) = 0 ∨ (0 : Int32) = 1) ∧ Q 0 σ3) ∧ (¬ ((100 : Int32) * (σ3 65 (x1).toNatClampNeg)) < (((100 : Int32) - (σ3 75 (r3).toNatClampNeg)) * (σ3 65 (x1).toNatClampNeg)) → ((1 : Int32) = 0 ∨ (1 : Int32) = 1) ∧ Q 1 σ3)))))) ∧ (¬ (σ3 66 (x1).toNatClampNeg) ≤ (σ3 65 (x1).toNatClampNeg) → vp_in x1 80 ∧ (vp_in r3 7 ∧ (((σ3 65 (x1).toNatClampNeg) < (σ3 74 (r3).toNatClampNeg) → ((0 : Int32) = 0 ∨ (0 : Int32) = 1) ∧ Q 0 σ3) ∧ (¬ (σ3 65 (x1).toNatClampNeg) < (σ3 74 (r3).toNatClampNeg) → vp_in r3 7 ∧ ((((100 : Int32) * (σ3 65 (x1).toNatClampNeg)) < (((100 : Int32) - (σ3 75 (r3).toNatClampNeg)) * (σ3 66 (x1).toNatClampNeg)) → ((0 : Int32) = 0 ∨ (0 : Int32) = 1) ∧ Q 0 σ3) ∧ (¬ ((100 : Int32) * (σ3 65 (x1).toNatClampNeg)) < (((100 : Int32) - (σ3 75 (r3).toNatClampNeg)) * (σ3 66 (x1).toNatClampNeg)) → ((1 : Int32) = 0 ∨ (1 : Int32) = 1) ∧ Q 1 σ3))))))))))))) ∧ ((σ3 50 (σ3 59 (x1).toNatClampNeg).toNatClampNeg) = 3 → ((1 : Int32) = 0 ∨ (1 : Int32) = 1) ∧ Q 1 σ3)) ∧ (¬ ((σ3 67 (x1).toNatClampNeg) &&& (σ3 76 (((4 : Int32) * r3) + (σ3 50 (σ3 59 (x1).toNatClampNeg).toNatClampNeg)).toNatClampNeg)) = 0 → ((0 : Int32) = 0 ∨ (0 : Int32) = 1) ∧ Q 0 σ3)))) ∧ (¬ 0 ≤ r3 → ((1 : Int32) = 0 ∨ (1 : Int32) = 1) ∧ Q 1 σ3)))))) : Ex sc C 2 cd_152 Q 0 [some (.ref 12), some (.int x1), none, none, none, none] [] σ := wpn_Ex (cuts := []) hC (fun _ _ _ _ z => z) 86 0 _ _ _ v
set_option maxHeartbeats 20000000 in
set_option maxRecDepth 100000 in
theorem hp_152 {sc : Nat × (Nat → Int32)} {Q : Int32 → St → Prop} {x1 : Int32} {σ : St} (h : Ap (sp_152 x1 σ) Q) : Ex sc CC 2 cd_152 Q 0 [some (.ref 12), some (.int x1), none, none, none, none] [] σ := by
  exact ve_152 monCC x1 σ (n_mb h (fun h => cc_150 (n_bn h (fun r3 σ3 h => n_mb h (fun h => n_mb h (fun h => n_if h (fun h => n_mb h (fun h => n_mb h (fun h => n_if h (fun h => n_ne h (fun h => n_rb h) (fun h => n_mb h (fun h => n_mb h (fun h => n_if h (fun h => n_mb h (fun h => n_mb h (fun h => n_mb h (fun h => n_if h (fun h => n_mb h (fun h => n_mb h (fun h => n_if h (fun h => n_rb h) (fun h => n_mb h (fun h => n_if h (fun h => n_rb h) (fun h => n_rb h)))))) (fun h => n_mb h (fun h => n_mb h (fun h => n_if h (fun h => n_rb h) (fun h => n_mb h (fun h => n_if h (fun h => n_rb h) (fun h => n_rb h)))))))))) (fun h => n_mb h (fun h => n_mb h (fun h => n_mb h (fun h => n_if h (fun h => n_mb h (fun h => n_mb h (fun h => n_if h (fun h => n_rb h) (fun h => n_mb h (fun h => n_if h (fun h => n_rb h) (fun h => n_rb h)))))) (fun h => n_mb h (fun h => n_mb h (fun h => n_if h (fun h => n_rb h) (fun h => n_mb h (fun h => n_if h (fun h => n_rb h) (fun h => n_rb h)))))))))))))) (fun h => n_rb h)))) (fun h => n_rb h)))))))
-- TradeTestsModel.shareOf
set_option maxHeartbeats 20000000 in
set_option maxRecDepth 100000 in
set_option maxHeartbeats 20000000 in
set_option maxRecDepth 100000 in
theorem vh_156_7 {sc : Nat × (Nat → Int32)} {C : CT} (hC : MonC C) {Q : Int32 → St → Prop} (v1 : Int32) (v2 : Int32) (v3 : Int32) (v4 : Int32) (σ : St) (v : ((σ 12 4) ≤ v4 → (¬ v2 = 0 → ¬ v2 = 0 ∧ (Q (((1000 : Int32) * v3) / v2) σ)) ∧ (v2 = 0 → Q (-1) σ)) ∧ (¬ (σ 12 4) ≤ v4 → C 157 [.ref 12, .int v4] σ (fun r3 σ3 => (r3 = v1 → vp_in v4 80 ∧ (((σ3 70 (v4).toNatClampNeg) = 0 → Ex sc C 1 cd_156 Q 7 [some (.ref 12), some (.int v1), some (.int (v2 + 1)), some (.int (v3 + 0)), some (.int (v4 + 1))] [] σ3) ∧ (¬ (σ3 70 (v4).toNatClampNeg) = 0 → Ex sc C 1 cd_156 Q 7 [some (.ref 12), some (.int v1), some (.int (v2 + 1)), some (.int (v3 + 1)), some (.int (v4 + 1))] [] σ3))) ∧ (¬ r3 = v1 → Ex sc C 1 cd_156 Q 7 [some (.ref 12), some (.int v1), some (.int v2), some (.int v3), some (.int (v4 + 1))] [] σ3)))) : Ex sc C 1 cd_156 Q 7 [some (.ref 12), some (.int v1), some (.int v2), some (.int v3), some (.int v4)] [] σ := stw_Ex (cuts := [7]) hC 23 v
theorem hl_156_7 {sc : Nat × (Nat → Int32)} {Q : Int32 → St → Prop} : ∀ (n : Nat) (v1 : Int32) (v2 : Int32) (v3 : Int32) (v4 : Int32) (σ : St), Ap (lp_156_7 n v1 v2 v3 v4 σ) Q → Ex sc CC 1 cd_156 Q 7 [some (.ref 12), some (.int v1), some (.int v2), some (.int v3), some (.int v4)] [] σ := by
  intro n
  induction n with
  | zero => intro v1 v2 v3 v4 σ h; exact n_no h
  | succ n ih =>
    intro v1 v2 v3 v4 σ h
    exact vh_156_7 monCC v1 v2 v3 v4 σ (n_if h (fun h => n_ne h (fun h => n_rt h) (fun h => n_mb h (fun h => n_rt h))) (fun h => cc_157 (n_bn h (fun r3 σ3 h => n_if h (fun h => n_mb h (fun h => n_if h (fun h => ih v1 (v2 + 1) (v3 + 0) (v4 + 1) σ3 h) (fun h => ih v1 (v2 + 1) (v3 + 1) (v4 + 1) σ3 h))) (fun h => ih v1 v2 v3 (v4 + 1) σ3 h)))))
set_option maxHeartbeats 20000000 in
set_option maxRecDepth 100000 in
theorem ve_156 {sc : Nat × (Nat → Int32)} {C : CT} (hC : MonC C) {Q : Int32 → St → Prop} (x1 : Int32) (σ : St) (v : Ex sc C 1 cd_156 Q 7 [some (.ref 12), some (.int x1), some (.int 0), some (.int 0), some (.int 0)] [] σ) : Ex sc C 1 cd_156 Q 0 [some (.ref 12), some (.int x1), none, none, none] [] σ := wpn_Ex (cuts := [7]) hC (fun _ _ _ _ z => z) 8 0 _ _ _ v
set_option maxHeartbeats 20000000 in
set_option maxRecDepth 100000 in
theorem hp_156 {sc : Nat × (Nat → Int32)} {Q : Int32 → St → Prop} {x1 : Int32} {σ : St} (h : Ap (sp_156 x1 σ) Q) : Ex sc CC 1 cd_156 Q 0 [some (.ref 12), some (.int x1), none, none, none] [] σ := by
  exact ve_156 monCC x1 σ (hl_156_7 FU x1 0 0 0 σ h)
-- TradeTestsModel.areNear
set_option maxHeartbeats 20000000 in
set_option maxRecDepth 100000 in
theorem ve_164 {sc : Nat × (Nat → Int32)} {C : CT} (hC : MonC C) {Q : Int32 → St → Prop} (x1 x2 x3 : Int32) (σ : St) (v : C 123 [.int (x1 - x2), .int (-x3), .int x3] σ (fun r3 σ3 => (r3 = 0 ∨ r3 = 1) ∧ Q r3 σ3)) : Ex sc C 2 cd_164 Q 0 [some (.int x1), some (.int x2), some (.int x3)] [] σ := wpn_Ex (cuts := []) hC (fun _ _ _ _ z => z) 9 0 _ _ _ v
set_option maxHeartbeats 20000000 in
set_option maxRecDepth 100000 in
theorem hp_164 {sc : Nat × (Nat → Int32)} {Q : Int32 → St → Prop} {x1 x2 x3 : Int32} {σ : St} (h : Ap (sp_164 x1 x2 x3 σ) Q) : Ex sc CC 2 cd_164 Q 0 [some (.int x1), some (.int x2), some (.int x3)] [] σ := by
  exact ve_164 monCC x1 x2 x3 σ (cc_123 (n_bn h (fun r3 σ3 h => n_rb h)))
