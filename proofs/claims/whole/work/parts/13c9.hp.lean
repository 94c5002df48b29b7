/-! the code does what the functions say (written by wip/whole/gen/spec.py) -/
-- TradeTests.check
set_option maxHeartbeats 20000000 in
set_option maxRecDepth 100000 in
set_option maxHeartbeats 20000000 in
set_option maxRecDepth 100000 in
theorem vh_118_28 {sc : Nat × (Nat → Int32)} {C : CT} (hC : MonC C) {Q : Int32 → St → Prop} (v1 : Int32) (v2 : Int32) (v3 : Int32) (σ : St) (v : (v2 ≤ v3 → Q 0 σ) ∧ (¬ v2 ≤ v3 → ((σ 2 4) ≤ v3 → Q ((1 : Int32) + v3) σ) ∧ (¬ (σ 2 4) ≤ v3 → vp_in v3 8 ∧ (C 88 [.ref 10, .int v3, .int v1] σ (fun r7 σ7 => ((σ 13 (v3).toNatClampNeg) = r7 → Ex sc C 1 cd_118 Q 28 [some (.ref 0), some (.int v1), some (.int v2), some (.int (v3 + 1))] [] σ7) ∧ (¬ (σ 13 (v3).toNatClampNeg) = r7 → Q ((1 : Int32) + v3) σ7)))))) : Ex sc C 1 cd_118 Q 28 [some (.ref 0), some (.int v1), some (.int v2), some (.int v3)] [] σ := stw_Ex (cuts := [28]) hC 22 v
theorem hl_118_28 {sc : Nat × (Nat → Int32)} {Q : Int32 → St → Prop} : ∀ (n : Nat) (v1 : Int32) (v2 : Int32) (v3 : Int32) (σ : St), Ap (lp_118_28 n v1 v2 v3 σ) Q → Ex sc CC 1 cd_118 Q 28 [some (.ref 0), some (.int v1), some (.int v2), some (.int v3)] [] σ := by
  intro n
  induction n with
  | zero => intro v1 v2 v3 σ h; exact n_no h
  | succ n ih =>
    intro v1 v2 v3 σ h
    exact vh_118_28 monCC v1 v2 v3 σ (n_if h (fun h => n_rt h) (fun h => n_if h (fun h => n_rt h) (fun h => n_mb h (fun h => cc_88 (n_bn h (fun r7 σ7 h => n_if h (fun h => ih v1 v2 (v3 + 1) σ7 h) (fun h => n_rt h)))))))
set_option maxHeartbeats 20000000 in
set_option maxRecDepth 100000 in
theorem ve_118 {sc : Nat × (Nat → Int32)} {C : CT} (hC : MonC C) {Q : Int32 → St → Prop} (x1 : Int32) (σ : St) (v : C 1 [.int x1, .int 10000] (up σ 0 12 0) (fun r8 σ8 => (¬ r8 = 0 → Ex sc C 1 cd_118 Q 28 [some (.ref 0), some (.int x1), some (.int (σ 0 12)), some (.int 0)] [] σ8) ∧ (r8 = 0 → C 2 [.ref 0, .int 1] σ8 (fun r9 σ9 => Q r9 σ9)))) : Ex sc C 1 cd_118 Q 0 [some (.ref 0), some (.int x1), none, none] [] σ := wpn_Ex (cuts := [28]) hC (fun _ _ _ _ z => z) 15 0 _ _ _ v
set_option maxHeartbeats 20000000 in
set_option maxRecDepth 100000 in
theorem hp_118 {sc : Nat × (Nat → Int32)} {Q : Int32 → St → Prop} {x1 : Int32} {σ : St} (h : Ap (sp_118 x1 σ) Q) : Ex sc CC 1 cd_118 Q 0 [some (.ref 0), some (.int x1), none, none] [] σ := by
  exact ve_118 monCC x1 σ (cc_1 (n_bn h (fun r8 σ8 h => n_ne h (fun h => cc_2 (n_bn h (fun r9 σ9 h => n_rt h))) (fun h => hl_118_28 FU x1 (σ 0 12) 0 σ8 h))))
-- TradeTestsModel.worth
set_option maxHeartbeats 20000000 in
set_option maxRecDepth 100000 in
theorem ve_183 {sc : Nat × (Nat → Int32)} {C : CT} (hC : MonC C) {Q : Int32 → St → Prop} (x1 x2 : Int32) (σ : St) (v : C 123 [.int x1, .int 0, .int ((σ 12 6) - 1)] σ (fun r11 σ11 => (r11 = 0 → C 125 [.ref 12, .int 1] σ11 (fun r12 σ12 => Q r12 σ12)) ∧ (¬ r11 = 0 → C 132 [.ref 12, .int x2] σ11 (fun r13 σ13 => (r13 = 0 → C 125 [.ref 12, .int 1] σ13 (fun r14 σ14 => Q r14 σ14)) ∧ (¬ r13 = 0 → C 184 [.ref 12, .int x1, .int x2] σ13 (fun r15 σ15 => Q r15 σ15)))))) : Ex sc C 1 cd_183 Q 0 [some (.ref 12), some (.int x1), some (.int x2)] [] σ := wpn_Ex (cuts := []) hC (fun _ _ _ _ z => z) 19 0 _ _ _ v
set_option maxHeartbeats 20000000 in
set_option maxRecDepth 100000 in
theorem hp_183 {sc : Nat × (Nat → Int32)} {Q : Int32 → St → Prop} {x1 x2 : Int32} {σ : St} (h : Ap (sp_183 x1 x2 σ) Q) : Ex sc CC 1 cd_183 Q 0 [some (.ref 12), some (.int x1), some (.int x2)] [] σ := by
  exact ve_183 monCC x1 x2 σ (cc_123 (n_bn h (fun r11 σ11 h => n_if h (fun h => cc_125 (n_bn h (fun r12 σ12 h => n_rt h))) (fun h => cc_132 (n_bn h (fun r13 σ13 h => n_if h (fun h => cc_125 (n_bn h (fun r14 σ14 h => n_rt h))) (fun h => cc_184 (n_bn h (fun r15 σ15 h => n_rt h)))))))))
