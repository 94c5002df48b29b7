/-! the code does what the functions say (written by wip/whole/gen/spec.py) -/
-- TradeTestsModel.vehicle
set_option maxHeartbeats 20000000 in
set_option maxRecDepth 100000 in
theorem ve_122 {sc : Nat × (Nat → Int32)} {C : CT} (hC : MonC C) {Q : Int32 → St → Prop} (x1 x2 x3 : Int32) (σ : St) (v : C 123 [.int x1, .int 0, .int 3] σ (fun r15 σ15 => (r15 = 0 → C 125 [.ref 12, .int 1] σ15 (fun r16 σ16 => Q r16 σ16)) ∧ (¬ r15 = 0 → C 123 [.int x2, .int 0, .int 3] σ15 (fun r17 σ17 => (r17 = 0 → C 125 [.ref 12, .int 1] σ17 (fun r18 σ18 => Q r18 σ18)) ∧ (¬ r17 = 0 → C 124 [.int x3] σ17 (fun r19 σ19 => (¬ r19 = 0 → (¬ (σ19 12 0) = 24 → vp_in (σ19 12 0) 24 ∧ (vp_in (σ19 12 0) 24 ∧ (vp_in (σ19 12 0) 24 ∧ (Q (((σ19 12 0) + 1) - 1) (up (up (up (up σ19 50 (σ19 12 0).toNatClampNeg x1) 51 (σ19 12 0).toNatClampNeg x2) 52 (σ19 12 0).toNatClampNeg x3) 12 0 ((σ19 12 0) + 1)))))) ∧ ((σ19 12 0) = 24 → C 125 [.ref 12, .int 4] σ19 (fun r20 σ20 => Q r20 σ20))) ∧ (r19 = 0 → C 125 [.ref 12, .int 1] σ19 (fun r21 σ21 => Q r21 σ21)))))))) : Ex sc C 1 cd_122 Q 0 [some (.ref 12), some (.int x1), some (.int x2), some (.int x3)] [] σ := wpn_Ex (cuts := []) hC (fun _ _ _ _ z => z) 47 0 _ _ _ v
set_option maxHeartbeats 20000000 in
set_option maxRecDepth 100000 in
theorem hp_122 {sc : Nat × (Nat → Int32)} {Q : Int32 → St → Prop} {x1 x2 x3 : Int32} {σ : St} (h : Ap (sp_122 x1 x2 x3 σ) Q) : Ex sc CC 1 cd_122 Q 0 [some (.ref 12), some (.int x1), some (.int x2), some (.int x3)] [] σ := by
  exact ve_122 monCC x1 x2 x3 σ (cc_123 (n_bn h (fun r15 σ15 h => n_if h (fun h => cc_125 (n_bn h (fun r16 σ16 h => n_rt h))) (fun h => cc_123 (n_bn h (fun r17 σ17 h => n_if h (fun h => cc_125 (n_bn h (fun r18 σ18 h => n_rt h))) (fun h => cc_124 (n_bn h (fun r19 σ19 h => n_ne h (fun h => cc_125 (n_bn h (fun r21 σ21 h => n_rt h))) (fun h => n_ne h (fun h => cc_125 (n_bn h (fun r20 σ20 h => n_rt h))) (fun h => n_mb h (fun h => n_mb h (fun h => n_mb h (fun h => n_rt h))))))))))))))
-- TradeTestsModel.as
set_option maxHeartbeats 20000000 in
set_option maxRecDepth 100000 in
theorem ve_126 {sc : Nat × (Nat → Int32)} {C : CT} (hC : MonC C) {Q : Int32 → St → Prop} (x1 x2 : Int32) (σ : St) (v : C 127 [.ref 12, .int x1] σ (fun r15 σ15 => (r15 = 0 → C 125 [.ref 12, .int 1] σ15 (fun r16 σ16 => Q r16 σ16)) ∧ (¬ r15 = 0 → C 123 [.int x2, .int 0, .int 3] σ15 (fun r17 σ17 => (¬ r17 = 0 → vp_in x1 24 ∧ (C 128 [.int (σ17 50 (x1).toNatClampNeg), .int x2] σ17 (fun r18 σ18 => (r18 = 0 → C 125 [.ref 12, .int 5] σ18 (fun r19 σ19 => Q r19 σ19)) ∧ (¬ r18 = 0 → C 129 [.ref 12, .int x1] σ18 (fun r20 σ20 => Q r20 σ20))))) ∧ (r17 = 0 → C 125 [.ref 12, .int 1] σ17 (fun r21 σ21 => Q r21 σ21)))))) : Ex sc C 1 cd_126 Q 0 [some (.ref 12), some (.int x1), some (.int x2)] [] σ := wpn_Ex (cuts := []) hC (fun _ _ _ _ z => z) 22 0 _ _ _ v
set_option maxHeartbeats 20000000 in
set_option maxRecDepth 100000 in
theorem hp_126 {sc : Nat × (Nat → Int32)} {Q : Int32 → St → Prop} {x1 x2 : Int32} {σ : St} (h : Ap (sp_126 x1 x2 σ) Q) : Ex sc CC 1 cd_126 Q 0 [some (.ref 12), some (.int x1), some (.int x2)] [] σ := by
  exact ve_126 monCC x1 x2 σ (cc_127 (n_bn h (fun r15 σ15 h => n_if h (fun h => cc_125 (n_bn h (fun r16 σ16 h => n_rt h))) (fun h => cc_123 (n_bn h (fun r17 σ17 h => n_ne h (fun h => cc_125 (n_bn h (fun r21 σ21 h => n_rt h))) (fun h => n_mb h (fun h => cc_128 (n_bn h (fun r18 σ18 h => n_if h (fun h => cc_125 (n_bn h (fun r19 σ19 h => n_rt h))) (fun h => cc_129 (n_bn h (fun r20 σ20 h => n_rt h)))))))))))))
-- TradeTestsModel.tester
set_option maxHeartbeats 20000000 in
set_option maxRecDepth 100000 in
theorem ve_131 {sc : Nat × (Nat → Int32)} {C : CT} (hC : MonC C) {Q : Int32 → St → Prop} (x1 : Int32) (σ : St) (v : C 132 [.ref 12, .int x1] σ (fun r7 σ7 => (¬ r7 = 0 → (¬ (σ7 12 2) = 8 → vp_in (σ7 12 2) 8 ∧ (Q (((σ7 12 2) + 1) - 1) (up (up σ7 55 (σ7 12 2).toNatClampNeg x1) 12 2 ((σ7 12 2) + 1)))) ∧ ((σ7 12 2) = 8 → C 125 [.ref 12, .int 4] σ7 (fun r8 σ8 => Q r8 σ8))) ∧ (r7 = 0 → C 125 [.ref 12, .int 1] σ7 (fun r9 σ9 => Q r9 σ9)))) : Ex sc C 1 cd_131 Q 0 [some (.ref 12), some (.int x1)] [] σ := wpn_Ex (cuts := []) hC (fun _ _ _ _ z => z) 26 0 _ _ _ v
set_option maxHeartbeats 20000000 in
set_option maxRecDepth 100000 in
theorem hp_131 {sc : Nat × (Nat → Int32)} {Q : Int32 → St → Prop} {x1 : Int32} {σ : St} (h : Ap (sp_131 x1 σ) Q) : Ex sc CC 1 cd_131 Q 0 [some (.ref 12), some (.int x1)] [] σ := by
  exact ve_131 monCC x1 σ (cc_132 (n_bn h (fun r7 σ7 h => n_ne h (fun h => cc_125 (n_bn h (fun r9 σ9 h => n_rt h))) (fun h => n_ne h (fun h => cc_125 (n_bn h (fun r8 σ8 h => n_rt h))) (fun h => n_mb h (fun h => n_rt h))))))
-- TradeTestsModel.move
set_option maxHeartbeats 20000000 in
set_option maxRecDepth 100000 in
set_option maxHeartbeats 20000000 in
set_option maxRecDepth 100000 in
theorem vh_133_32 {sc : Nat × (Nat → Int32)} {C : CT} (hC : MonC C) {Q : Int32 → St → Prop} (v1 : Int32) (v2 : Int32) (v3 : Int32) (v4 : Int32) (σ : St) (v : ((σ 12 3) ≤ v4 → (¬ (σ 12 3) = 30 → C 135 [.ref 12, .int v1, .int (v3 - 1)] σ (fun r19 σ19 => vp_in (σ19 12 3) 30 ∧ (vp_in (σ19 12 3) 30 ∧ (vp_in (σ19 12 3) 30 ∧ (Q r19 (up (up (up (up σ19 56 (σ19 12 3).toNatClampNeg v1) 57 (σ19 12 3).toNatClampNeg v2) 58 (σ19 12 3).toNatClampNeg v3) 12 3 ((σ19 12 3) + 1))))))) ∧ ((σ 12 3) = 30 → C 125 [.ref 12, .int 4] σ (fun r20 σ20 => Q r20 σ20))) ∧ (¬ (σ 12 3) ≤ v4 → vp_in v4 30 ∧ ((¬ (σ 56 (v4).toNatClampNeg) = v1 → Ex sc C 1 cd_133 Q 32 [some (.ref 12), some (.int v1), some (.int v2), some (.int v3), some (.int (v4 + 1))] [] σ) ∧ ((σ 56 (v4).toNatClampNeg) = v1 → vp_in v4 30 ∧ (((σ 58 (v4).toNatClampNeg) ≤ v3 → Ex sc C 1 cd_133 Q 32 [some (.ref 12), some (.int v1), some (.int v2), some (.int v3), some (.int (v4 + 1))] [] σ) ∧ (¬ (σ 58 (v4).toNatClampNeg) ≤ v3 → C 125 [.ref 12, .int 1] σ (fun r21 σ21 => Q r21 σ21))))))) : Ex sc C 1 cd_133 Q 32 [some (.ref 12), some (.int v1), some (.int v2), some (.int v3), some (.int v4)] [] σ := stw_Ex (cuts := [32]) hC 41 v
theorem hl_133_32 {sc : Nat × (Nat → Int32)} {Q : Int32 → St → Prop} : ∀ (n : Nat) (v1 : Int32) (v2 : Int32) (v3 : Int32) (v4 : Int32) (σ : St), Ap (lp_133_32 n v1 v2 v3 v4 σ) Q → Ex sc CC 1 cd_133 Q 32 [some (.ref 12), some (.int v1), some (.int v2), some (.int v3), some (.int v4)] [] σ := by
  intro n
  induction n with
  | zero => intro v1 v2 v3 v4 σ h; exact n_no h
  | succ n ih =>
    intro v1 v2 v3 v4 σ h
    exact vh_133_32 monCC v1 v2 v3 v4 σ (n_if h (fun h => n_ne h (fun h => cc_125 (n_bn h (fun r20 σ20 h => n_rt h))) (fun h => cc_135 (n_bn h (fun r19 σ19 h => n_mb h (fun h => n_mb h (fun h => n_mb h (fun h => n_rt h))))))) (fun h => n_mb h (fun h => n_ne h (fun h => n_mb h (fun h => n_if h (fun h => ih v1 v2 v3 (v4 + 1) σ h) (fun h => cc_125 (n_bn h (fun r21 σ21 h => n_rt h))))) (fun h => ih v1 v2 v3 (v4 + 1) σ h))))
set_option maxHeartbeats 20000000 in
set_option maxRecDepth 100000 in
theorem ve_133 {sc : Nat × (Nat → Int32)} {C : CT} (hC : MonC C) {Q : Int32 → St → Prop} (x1 x2 x3 : Int32) (σ : St) (v : C 134 [.ref 12, .int x1] σ (fun r22 σ22 => (r22 = 0 → C 125 [.ref 12, .int 1] σ22 (fun r23 σ23 => Q r23 σ23)) ∧ (¬ r22 = 0 → C 132 [.ref 12, .int x2] σ22 (fun r24 σ24 => (r24 = 0 → C 125 [.ref 12, .int 1] σ24 (fun r25 σ25 => Q r25 σ25)) ∧ (¬ r24 = 0 → C 124 [.int x3] σ24 (fun r26 σ26 => (¬ r26 = 0 → Ex sc C 1 cd_133 Q 32 [some (.ref 12), some (.int x1), some (.int x2), some (.int x3), some (.int 0)] [] σ26) ∧ (r26 = 0 → C 125 [.ref 12, .int 1] σ26 (fun r27 σ27 => Q r27 σ27)))))))) : Ex sc C 1 cd_133 Q 0 [some (.ref 12), some (.int x1), some (.int x2), some (.int x3), none] [] σ := wpn_Ex (cuts := [32]) hC (fun _ _ _ _ z => z) 16 0 _ _ _ v
set_option maxHeartbeats 20000000 in
set_option maxRecDepth 100000 in
theorem hp_133 {sc : Nat × (Nat → Int32)} {Q : Int32 → St → Prop} {x1 x2 x3 : Int32} {σ : St} (h : Ap (sp_133 x1 x2 x3 σ) Q) : Ex sc CC 1 cd_133 Q 0 [some (.ref 12), some (.int x1), some (.int x2), some (.int x3), none] [] σ := by
  exact ve_133 monCC x1 x2 x3 σ (cc_134 (n_bn h (fun r22 σ22 h => n_if h (fun h => cc_125 (n_bn h (fun r23 σ23 h => n_rt h))) (fun h => cc_132 (n_bn h (fun r24 σ24 h => n_if h (fun h => cc_125 (n_bn h (fun r25 σ25 h => n_rt h))) (fun h => cc_124 (n_bn h (fun r26 σ26 h => n_ne h (fun h => cc_125 (n_bn h (fun r27 σ27 h => n_rt h))) (fun h => hl_133_32 FU x1 x2 x3 0 σ26 h))))))))))
-- TradeTestsModel.at
set_option maxHeartbeats 20000000 in
set_option maxRecDepth 100000 in
theorem ve_136 {sc : Nat × (Nat → Int32)} {C : CT} (hC : MonC C) {Q : Int32 → St → Prop} (x1 x2 : Int32) (σ : St) (v : C 134 [.ref 12, .int x1] σ (fun r11 σ11 => (r11 = 0 → C 125 [.ref 12, .int 1] σ11 (fun r12 σ12 => Q r12 σ12)) ∧ (¬ r11 = 0 → C 124 [.int x2] σ11 (fun r13 σ13 => (r13 = 0 → C 125 [.ref 12, .int 1] σ13 (fun r14 σ14 => Q r14 σ14)) ∧ (¬ r13 = 0 → C 135 [.ref 12, .int x1, .int x2] σ13 (fun r15 σ15 => Q r15 σ15)))))) : Ex sc C 1 cd_136 Q 0 [some (.ref 12), some (.int x1), some (.int x2)] [] σ := wpn_Ex (cuts := []) hC (fun _ _ _ _ z => z) 14 0 _ _ _ v
set_option maxHeartbeats 20000000 in
set_option maxRecDepth 100000 in
theorem hp_136 {sc : Nat × (Nat → Int32)} {Q : Int32 → St → Prop} {x1 x2 : Int32} {σ : St} (h : Ap (sp_136 x1 x2 σ) Q) : Ex sc CC 1 cd_136 Q 0 [some (.ref 12), some (.int x1), some (.int x2)] [] σ := by
  exact ve_136 monCC x1 x2 σ (cc_134 (n_bn h (fun r11 σ11 h => n_if h (fun h => cc_125 (n_bn h (fun r12 σ12 h => n_rt h))) (fun h => cc_124 (n_bn h (fun r13 σ13 h => n_if h (fun h => cc_125 (n_bn h (fun r14 σ14 h => n_rt h))) (fun h => cc_135 (n_bn h (fun r15 σ15 h => n_rt h)))))))))
