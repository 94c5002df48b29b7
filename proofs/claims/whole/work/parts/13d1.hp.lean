/-! the code does what the functions say (written by wip/whole/gen/spec.py) -/
-- TradeTestsModel.plan
set_option maxHeartbeats 20000000 in
set_option maxRecDepth 100000 in
theorem ve_185 {sc : Nat × (Nat → Int32)} {C : CT} (hC : MonC C) {Q : Int32 → St → Prop} (x1 : Int32) (σ : St) (v : C 123 [.int x1, .int (-1), .int ((σ 12 6) - 1)] σ (fun r9 σ9 => (¬ r9 = 0 → C 186 [.ref 12] σ9 (fun r10 σ10 => (0 ≤ x1 → vp_in x1 6 ∧ ((0 ≤ (σ10 84 (x1).toNatClampNeg) → vp_in x1 6 ∧ (Q (σ10 84 (x1).toNatClampNeg) σ10)) ∧ (¬ 0 ≤ (σ10 84 (x1).toNatClampNeg) → C 125 [.ref 12, .int 2] σ10 (fun r11 σ11 => Q r11 σ11)))) ∧ (¬ 0 ≤ x1 → Q r10 σ10))) ∧ (r9 = 0 → C 125 [.ref 12, .int 1] σ9 (fun r12 σ12 => Q r12 σ12)))) : Ex sc C 1 cd_185 Q 0 [some (.ref 12), some (.int x1), none] [] σ := wpn_Ex (cuts := []) hC (fun _ _ _ _ z => z) 24 0 _ _ _ v
set_option maxHeartbeats 20000000 in
set_option maxRecDepth 100000 in
theorem hp_185 {sc : Nat × (Nat → Int32)} {Q : Int32 → St → Prop} {x1 : Int32} {σ : St} (h : Ap (sp_185 x1 σ) Q) : Ex sc CC 1 cd_185 Q 0 [some (.ref 12), some (.int x1), none] [] σ := by
  exact ve_185 monCC x1 σ (cc_123 (n_bn h (fun r9 σ9 h => n_ne h (fun h => cc_125 (n_bn h (fun r12 σ12 h => n_rt h))) (fun h => cc_186 (n_bn h (fun r10 σ10 h => n_if h (fun h => n_mb h (fun h => n_if h (fun h => n_mb h (fun h => n_rt h)) (fun h => cc_125 (n_bn h (fun r11 σ11 h => n_rt h))))) (fun h => n_rt h)))))))
