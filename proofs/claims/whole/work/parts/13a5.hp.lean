/-! the code does what the functions say (written by wip/whole/gen/spec.py) -/
-- TradeTestsModel.isDigit
set_option maxHeartbeats 20000000 in
set_option maxRecDepth 100000 in
theorem ve_148 {sc : Nat × (Nat → Int32)} {C : CT} (hC : MonC C) {Q : Int32 → St → Prop} (x1 : Int32) (σ : St) (v : (x1 < 48 → ((0 : Int32) = 0 ∨ (0 : Int32) = 1) ∧ Q 0 σ) ∧ (¬ x1 < 48 → (57 < x1 → ((0 : Int32) = 0 ∨ (0 : Int32) = 1) ∧ Q 0 σ) ∧ (¬ 57 < x1 → ((1 : Int32) = 0 ∨ (1 : Int32) = 1) ∧ Q 1 σ))) : Ex sc C 2 cd_148 Q 0 [some (.int x1)] [] σ := wpn_Ex (cuts := []) hC (fun _ _ _ _ z => z) 10 0 _ _ _ v
set_option maxHeartbeats 20000000 in
set_option maxRecDepth 100000 in
theorem hp_148 {sc : Nat × (Nat → Int32)} {Q : Int32 → St → Prop} {x1 : Int32} {σ : St} (h : Ap (sp_148 x1 σ) Q) : Ex sc CC 2 cd_148 Q 0 [some (.int x1)] [] σ := by
  exact ve_148 monCC x1 σ (n_if h (fun h => n_rb h) (fun h => n_if h (fun h => n_rb h) (fun h => n_rb h)))
-- TradeTestsModel.textOn
set_option maxHeartbeats 20000000 in
set_option maxRecDepth 100000 in
set_option maxHeartbeats 20000000 in
set_option maxRecDepth 100000 in
theorem vh_150_4 {sc : Nat × (Nat → Int32)} {C : CT} (hC : MonC C) {Q : Int32 → St → Prop} (v1 : Int32) (v2 : Int32) (v3 : Int32) (σ : St) (v : ((σ 12 5) ≤ v3 → Q v2 σ) ∧ (¬ (σ 12 5) ≤ v3 → vp_in v3 7 ∧ ((v1 < (σ 73 (v3).toNatClampNeg) → Ex sc C 1 cd_150 Q 4 [some (.ref 12), some (.int v1), some (.int v2), some (.int (v3 + 1))] [] σ) ∧ (¬ v1 < (σ 73 (v3).toNatClampNeg) → Ex sc C 1 cd_150 Q 4 [some (.ref 12), some (.int v1), some (.int v3), some (.int (v3 + 1))] [] σ)))) : Ex sc C 1 cd_150 Q 4 [some (.ref 12), some (.int v1), some (.int v2), some (.int v3)] [] σ := stw_Ex (cuts := [4]) hC 16 v
theorem hl_150_4 {sc : Nat × (Nat → Int32)} {Q : Int32 → St → Prop} : ∀ (n : Nat) (v1 : Int32) (v2 : Int32) (v3 : Int32) (σ : St), Ap (lp_150_4 n v1 v2 v3 σ) Q → Ex sc CC 1 cd_150 Q 4 [some (.ref 12), some (.int v1), some (.int v2), some (.int v3)] [] σ := by
  intro n
  induction n with
  | zero => intro v1 v2 v3 σ h; exact n_no h
  | succ n ih =>
    intro v1 v2 v3 σ h
    exact vh_150_4 monCC v1 v2 v3 σ (n_if h (fun h => n_rt h) (fun h => n_mb h (fun h => n_if h (fun h => ih v1 v2 (v3 + 1) σ h) (fun h => ih v1 v3 (v3 + 1) σ h))))
set_option maxHeartbeats 20000000 in
set_option maxRecDepth 100000 in
theorem ve_150 {sc : Nat × (Nat → Int32)} {C : CT} (hC : MonC C) {Q : Int32 → St → Prop} (x1 : Int32) (σ : St) (v : Ex sc C 1 cd_150 Q 4 [some (.ref 12), some (.int x1), some (.int (-1)), some (.int 0)] [] σ) : Ex sc C 1 cd_150 Q 0 [some (.ref 12), some (.int x1), none, none] [] σ := wpn_Ex (cuts := [4]) hC (fun _ _ _ _ z => z) 6 0 _ _ _ v
set_option maxHeartbeats 20000000 in
set_option maxRecDepth 100000 in
theorem hp_150 {sc : Nat × (Nat → Int32)} {Q : Int32 → St → Prop} {x1 : Int32} {σ : St} (h : Ap (sp_150 x1 σ) Q) : Ex sc CC 1 cd_150 Q 0 [some (.ref 12), some (.int x1), none, none] [] σ := by
  exact ve_150 monCC x1 σ (hl_150_4 FU x1 (-1) 0 σ h)
-- TradeTestsModel.cellOf
set_option maxHeartbeats 20000000 in
set_option maxRecDepth 100000 in
theorem ve_157 {sc : Nat × (Nat → Int32)} {C : CT} (hC : MonC C) {Q : Int32 → St → Prop} (x1 : Int32) (σ : St) (v : vp_in x1 80 ∧ (vp_in x1 80 ∧ (vp_in (σ 59 (x1).toNatClampNeg) 24 ∧ (¬ (365 : Int32) = 0 ∧ ((3 ≤ (((σ 61 (x1).toNatClampNeg) - (σ 52 (σ 59 (x1).toNatClampNeg).toNatClampNeg)) / 365) → (6 ≤ (((σ 61 (x1).toNatClampNeg) - (σ 52 (σ 59 (x1).toNatClampNeg).toNatClampNeg)) / 365) → (10 ≤ (((σ 61 (x1).toNatClampNeg) - (σ 52 (σ 59 (x1).toNatClampNeg).toNatClampNeg)) / 365) → vp_in x1 80 ∧ (vp_in (σ 59 (x1).toNatClampNeg) 24 ∧ (Q (((4 : Int32) * 3) + (σ 51 (σ 59 (x1).toNatClampNeg).toNatClampNeg)) σ))) ∧ (¬ 10 ≤ (((σ 61 (x1).toNatClampNeg) - (σ 52 (σ 59 (x1).toNatClampNeg).toNatClampNeg)) / 365) → vp_in x1 80 ∧ (vp_in (σ 59 (x1).toNatClampNeg) 24 ∧ (Q (((4 : Int32) * 2) + (σ 51 (σ 59 (x1).toNatClampNeg).toNatClampNeg)) σ)))) ∧ (¬ 6 ≤ (((σ 61 (x1).toNatClampNeg) - (σ 52 (σ 59 (x1).toNatClampNeg).toNatClampNeg)) / 365) → vp_in x1 80 ∧ (vp_in (σ 59 (x1).toNatClampNeg) 24 ∧ (Q (((4 : Int32) * 1) + (σ 51 (σ 59 (x1).toNatClampNeg).toNatClampNeg)) σ)))) ∧ (¬ 3 ≤ (((σ 61 (x1).toNatClampNeg) - (σ 52 (σ 59 (x1).toNatClampNeg).toNatClampNeg)) / 365) → vp_in x1 80 ∧ (vp_in (σ 59 (x1).toNatClampNeg) 24 ∧ (Q (((4 : Int32) * 0) + (σ 51 (σ 59 (x1).toNatClampNeg).toNatClampNeg)) σ)))))))) : Ex sc C 1 cd_157 Q 0 [some (.ref 12), some (.int x1), none] [] σ := wpn_Ex (cuts := []) hC (fun _ _ _ _ z => z) 38 0 _ _ _ v
set_option maxHeartbeats 20000000 in
set_option maxRecDepth 100000 in
theorem hp_157 {sc : Nat × (Nat → Int32)} {Q : Int32 → St → Prop} {x1 : Int32} {σ : St} (h : Ap (sp_157 x1 σ) Q) : Ex sc CC 1 cd_157 Q 0 [some (.ref 12), some (.int x1), none] [] σ := by
  exact ve_157 monCC x1 σ (n_mb h (fun h => n_mb h (fun h => n_mb h (fun h => n_mb h (fun h => n_if h (fun h => n_if h (fun h => n_if h (fun h => n_mb h (fun h => n_mb h (fun h => n_rt h))) (fun h => n_mb h (fun h => n_mb h (fun h => n_rt h)))) (fun h => n_mb h (fun h => n_mb h (fun h => n_rt h)))) (fun h => n_mb h (fun h => n_mb h (fun h => n_rt h))))))))
-- TradeTestsModel.ones
set_option maxHeartbeats 20000000 in
set_option maxRecDepth 100000 in
set_option maxHeartbeats 20000000 in
set_option maxRecDepth 100000 in
theorem vh_160_4 {sc : Nat × (Nat → Int32)} {C : CT} (hC : MonC C) {Q : Int32 → St → Prop} (v0 : Int32) (v1 : Int32) (v2 : Int32) (σ : St) (v : (v2 = 0 → Q v1 σ) ∧ (¬ v2 = 0 → Ex sc C 1 cd_160 Q 4 [some (.int v0), some (.int (v1 + 1)), some (.int (v2 &&& (v2 - 1)))] [] σ)) : Ex sc C 1 cd_160 Q 4 [some (.int v0), some (.int v1), some (.int v2)] [] σ := stw_Ex (cuts := [4]) hC 11 v
theorem hl_160_4 {sc : Nat × (Nat → Int32)} {Q : Int32 → St → Prop} : ∀ (n : Nat) (v0 : Int32) (v1 : Int32) (v2 : Int32) (σ : St), Ap (lp_160_4 n v0 v1 v2 σ) Q → Ex sc CC 1 cd_160 Q 4 [some (.int v0), some (.int v1), some (.int v2)] [] σ := by
  intro n
  induction n with
  | zero => intro v0 v1 v2 σ h; exact n_no h
  | succ n ih =>
    intro v0 v1 v2 σ h
    exact vh_160_4 monCC v0 v1 v2 σ (n_if h (fun h => n_rt h) (fun h => ih v0 (v1 + 1) (v2 &&& (v2 - 1)) σ h))
set_option maxHeartbeats 20000000 in
set_option maxRecDepth 100000 in
theorem ve_160 {sc : Nat × (Nat → Int32)} {C : CT} (hC : MonC C) {Q : Int32 → St → Prop} (x1 : Int32) (σ : St) (v : Ex sc C 1 cd_160 Q 4 [some (.int x1), some (.int 0), some (.int x1)] [] σ) : Ex sc C 1 cd_160 Q 0 [some (.int x1), none, none] [] σ := wpn_Ex (cuts := [4]) hC (fun _ _ _ _ z => z) 6 0 _ _ _ v
set_option maxHeartbeats 20000000 in
set_option maxRecDepth 100000 in
theorem hp_160 {sc : Nat × (Nat → Int32)} {Q : Int32 → St → Prop} {x1 : Int32} {σ : St} (h : Ap (sp_160 x1 σ) Q) : Ex sc CC 1 cd_160 Q 0 [some (.int x1), none, none] [] σ := by
  exact ve_160 monCC x1 σ (hl_160_4 FU x1 0 x1 σ h)
-- TradeTestsModel.isQuick
set_option maxHeartbeats 20000000 in
set_option maxRecDepth 100000 in
theorem ve_165 {sc : Nat × (Nat → Int32)} {C : CT} (hC : MonC C) {Q : Int32 → St → Prop} (x1 : Int32) (σ : St) (v : vp_in x1 80 ∧ (vp_in (σ 59 (x1).toNatClampNeg) 24 ∧ (vp_in x1 80 ∧ ((¬ (σ 50 (σ 59 (x1).toNatClampNeg).toNatClampNeg) = 2 → (¬ (σ 50 (σ 59 (x1).toNatClampNeg).toNatClampNeg) = 3 → (20 ≤ (σ 63 (x1).toNatClampNeg) → ((0 : Int32) = 0 ∨ (0 : Int32) = 1) ∧ Q 0 σ) ∧ (¬ 20 ≤ (σ 63 (x1).toNatClampNeg) → ((1 : Int32) = 0 ∨ (1 : Int32) = 1) ∧ Q 1 σ)) ∧ ((σ 50 (σ 59 (x1).toNatClampNeg).toNatClampNeg) = 3 → (10 ≤ (σ 63 (x1).toNatClampNeg) → ((0 : Int32) = 0 ∨ (0 : Int32) = 1) ∧ Q 0 σ) ∧ (¬ 10 ≤ (σ 63 (x1).toNatClampNeg) → ((1 : Int32) = 0 ∨ (1 : Int32) = 1) ∧ Q 1 σ))) ∧ ((σ 50 (σ 59 (x1).toNatClampNeg).toNatClampNeg) = 2 → (30 ≤ (σ 63 (x1).toNatClampNeg) → ((0 : Int32) = 0 ∨ (0 : Int32) = 1) ∧ Q 0 σ) ∧ (¬ 30 ≤ (σ 63 (x1).toNatClampNeg) → ((1 : Int32) = 0 ∨ (1 : Int32) = 1) ∧ Q 1 σ)))))) : Ex sc C 2 cd_165 Q 0 [some (.ref 12), some (.int x1), none] [] σ := wpn_Ex (cuts := []) hC (fun _ _ _ _ z => z) 25 0 _ _ _ v
set_option maxHeartbeats 20000000 in
set_option maxRecDepth 100000 in
theorem hp_165 {sc : Nat × (Nat → Int32)} {Q : Int32 → St → Prop} {x1 : Int32} {σ : St} (h : Ap (sp_165 x1 σ) Q) : Ex sc CC 2 cd_165 Q 0 [some (.ref 12), some (.int x1), none] [] σ := by
  exact ve_165 monCC x1 σ (n_mb h (fun h => n_mb h (fun h => n_mb h (fun h => n_ne h (fun h => n_if h (fun h => n_rb h) (fun h => n_rb h)) (fun h => n_ne h (fun h => n_if h (fun h => n_rb h) (fun h => n_rb h)) (fun h => n_if h (fun h => n_rb h) (fun h => n_rb h)))))))
-- TradeTestsModel.overlaps
set_option maxHeartbeats 20000000 in
set_option maxRecDepth 100000 in
set_option maxHeartbeats 20000000 in
set_option maxRecDepth 100000 in
theorem vh_166_2 {sc : Nat × (Nat → Int32)} {C : CT} (hC : MonC C) {Q : Int32 → St → Prop} (v1 : Int32) (v2 : Int32) (σ : St) (v : ((σ 12 4) ≤ v2 → ((0 : Int32) = 0 ∨ (0 : Int32) = 1) ∧ Q 0 σ) ∧ (¬ (σ 12 4) ≤ v2 → (v2 = v1 → Ex sc C 2 cd_166 Q 2 [some (.ref 12), some (.int v1), some (.int (v2 + 1))] [] σ) ∧ (¬ v2 = v1 → vp_in v2 80 ∧ (vp_in v1 80 ∧ ((¬ (σ 60 (v2).toNatClampNeg) = (σ 60 (v1).toNatClampNeg) → Ex sc C 2 cd_166 Q 2 [some (.ref 12), some (.int v1), some (.int (v2 + 1))] [] σ) ∧ ((σ 60 (v2).toNatClampNeg) = (σ 60 (v1).toNatClampNeg) → vp_in v2 80 ∧ (vp_in v1 80 ∧ ((¬ (σ 61 (v2).toNatClampNeg) = (σ 61 (v1).toNatClampNeg) → Ex sc C 2 cd_166 Q 2 [some (.ref 12), some (.int v1), some (.int (v2 + 1))] [] σ) ∧ ((σ 61 (v2).toNatClampNeg) = (σ 61 (v1).toNatClampNeg) → vp_in v2 80 ∧ (vp_in v1 80 ∧ (vp_in v1 80 ∧ ((((σ 62 (v1).toNatClampNeg) + (σ 63 (v1).toNatClampNeg)) ≤ (σ 62 (v2).toNatClampNeg) → Ex sc C 2 cd_166 Q 2 [some (.ref 12), some (.int v1), some (.int (v2 + 1))] [] σ) ∧ (¬ ((σ 62 (v1).toNatClampNeg) + (σ 63 (v1).toNatClampNeg)) ≤ (σ 62 (v2).toNatClampNeg) → vp_in v1 80 ∧ (vp_in v2 80 ∧ (vp_in v2 80 ∧ ((((σ 62 (v2).toNatClampNeg) + (σ 63 (v2).toNatClampNeg)) ≤ (σ 62 (v1).toNatClampNeg) → Ex sc C 2 cd_166 Q 2 [some (.ref 12), some (.int v1), some (.int (v2 + 1))] [] σ) ∧ (¬ ((σ 62 (v2).toNatClampNeg) + (σ 63 (v2).toNatClampNeg)) ≤ (σ 62 (v1).toNatClampNeg) → ((1 : Int32) = 0 ∨ (1 : Int32) = 1) ∧ Q 1 σ))))))))))))))))) : Ex sc C 2 cd_166 Q 2 [some (.ref 12), some (.int v1), some (.int v2)] [] σ := stw_Ex (cuts := [2]) hC 56 v
theorem hl_166_2 {sc : Nat × (Nat → Int32)} {Q : Int32 → St → Prop} : ∀ (n : Nat) (v1 : Int32) (v2 : Int32) (σ : St), Ap (lp_166_2 n v1 v2 σ) Q → Ex sc CC 2 cd_166 Q 2 [some (.ref 12), some (.int v1), some (.int v2)] [] σ := by
  intro n
  induction n with
  | zero => intro v1 v2 σ h; exact n_no h
  | succ n ih =>
    intro v1 v2 σ h
    exact vh_166_2 monCC v1 v2 σ (n_if h (fun h => n_rb h) (fun h => n_if h (fun h => ih v1 (v2 + 1) σ h) (fun h => n_mb h (fun h => n_mb h (fun h => n_ne h (fun h => n_mb h (fun h => n_mb h (fun h => n_ne h (fun h => n_mb h (fun h => n_mb h (fun h => n_mb h (fun h => n_if h (fun h => ih v1 (v2 + 1) σ h) (fun h => n_mb h (fun h => n_mb h (fun h => n_mb h (fun h => n_if h (fun h => ih v1 (v2 + 1) σ h) (fun h => n_rb h))))))))) (fun h => ih v1 (v2 + 1) σ h)))) (fun h => ih v1 (v2 + 1) σ h))))))
set_option maxHeartbeats 20000000 in
set_option maxRecDepth 100000 in
theorem ve_166 {sc : Nat × (Nat → Int32)} {C : CT} (hC : MonC C) {Q : Int32 → St → Prop} (x1 : Int32) (σ : St) (v : Ex sc C 2 cd_166 Q 2 [some (.ref 12), some (.int x1), some (.int 0)] [] σ) : Ex sc C 2 cd_166 Q 0 [some (.ref 12), some (.int x1), none] [] σ := wpn_Ex (cuts := [2]) hC (fun _ _ _ _ z => z) 4 0 _ _ _ v
set_option maxHeartbeats 20000000 in
set_option maxRecDepth 100000 in
theorem hp_166 {sc : Nat × (Nat → Int32)} {Q : Int32 → St → Prop} {x1 : Int32} {σ : St} (h : Ap (sp_166 x1 σ) Q) : Ex sc CC 2 cd_166 Q 0 [some (.ref 12), some (.int x1), none] [] σ := by
  exact ve_166 monCC x1 σ (hl_166_2 FU x1 0 σ h)
-- TradeTests.vehicle
set_option maxHeartbeats 20000000 in
set_option maxRecDepth 100000 in
theorem ve_0 {sc : Nat × (Nat → Int32)} {C : CT} (hC : MonC C) {Q : Int32 → St → Prop} (x1 x2 x3 : Int32) (σ : St) (v : C 1 [.int x1, .int 4] σ (fun r17 σ17 => (r17 = 0 → C 2 [.ref 0, .int 1] σ17 (fun r18 σ18 => Q r18 σ18)) ∧ (¬ r17 = 0 → C 1 [.int x2, .int 4] σ17 (fun r19 σ19 => (r19 = 0 → C 2 [.ref 0, .int 1] σ19 (fun r20 σ20 => Q r20 σ20)) ∧ (¬ r19 = 0 → C 1 [.int x3, .int 10000] σ19 (fun r21 σ21 => (¬ r21 = 0 → ((σ21 1 3) < 24 → C 3 [.ref 1, .int x1, .int x2, .int x3] σ21 (fun r22 σ22 => Q r22 σ22)) ∧ (¬ (σ21 1 3) < 24 → C 2 [.ref 0, .int 4] σ21 (fun r23 σ23 => Q r23 σ23))) ∧ (r21 = 0 → C 2 [.ref 0, .int 1] σ21 (fun r24 σ24 => Q r24 σ24)))))))) : Ex sc C 1 cd_0 Q 0 [some (.ref 0), some (.int x1), some (.int x2), some (.int x3)] [] σ := wpn_Ex (cuts := []) hC (fun _ _ _ _ z => z) 25 0 _ _ _ v
set_option maxHeartbeats 20000000 in
set_option maxRecDepth 100000 in
theorem hp_0 {sc : Nat × (Nat → Int32)} {Q : Int32 → St → Prop} {x1 x2 x3 : Int32} {σ : St} (h : Ap (sp_0 x1 x2 x3 σ) Q) : Ex sc CC 1 cd_0 Q 0 [some (.ref 0), some (.int x1), some (.int x2), some (.int x3)] [] σ := by
  exact ve_0 monCC x1 x2 x3 σ (cc_1 (n_bn h (fun r17 σ17 h => n_if h (fun h => cc_2 (n_bn h (fun r18 σ18 h => n_rt h))) (fun h => cc_1 (n_bn h (fun r19 σ19 h => n_if h (fun h => cc_2 (n_bn h (fun r20 σ20 h => n_rt h))) (fun h => cc_1 (n_bn h (fun r21 σ21 h => n_ne h (fun h => cc_2 (n_bn h (fun r24 σ24 h => n_rt h))) (fun h => n_if h (fun h => cc_3 (n_bn h (fun r22 σ22 h => n_rt h))) (fun h => cc_2 (n_bn h (fun r23 σ23 h => n_rt h)))))))))))))
