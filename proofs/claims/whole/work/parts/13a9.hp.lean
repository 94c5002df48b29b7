/-! the code does what the functions say (written by wip/whole/gen/spec.py) -/
-- TradeTests.found
set_option maxHeartbeats 20000000 in
set_option maxRecDepth 100000 in
theorem ve_121 {sc : Nat × (Nat → Int32)} {C : CT} (hC : MonC C) {Q : Int32 → St → Prop} (x1 : Int32) (σ : St) (v : (x1 < 1 → C 2 [.ref 0, .int 1] σ (fun r5 σ5 => Q r5 σ5)) ∧ (¬ x1 < 1 → (x1 ≤ 5 → vp_in x1 6 ∧ (Q (σ 14 (x1).toNatClampNeg) σ)) ∧ (¬ x1 ≤ 5 → C 2 [.ref 0, .int 1] σ (fun r6 σ6 => Q r6 σ6)))) : Ex sc C 1 cd_121 Q 0 [some (.ref 0), some (.int x1)] [] σ := wpn_Ex (cuts := []) hC (fun _ _ _ _ z => z) 12 0 _ _ _ v
set_option maxHeartbeats 20000000 in
set_option maxRecDepth 100000 in
theorem hp_121 {sc : Nat × (Nat → Int32)} {Q : Int32 → St → Prop} {x1 : Int32} {σ : St} (h : Ap (sp_121 x1 σ) Q) : Ex sc CC 1 cd_121 Q 0 [some (.ref 0), some (.int x1)] [] σ := by
  exact ve_121 monCC x1 σ (n_if h (fun h => cc_2 (n_bn h (fun r5 σ5 h => n_rt h))) (fun h => n_if h (fun h => n_mb h (fun h => n_rt h)) (fun h => cc_2 (n_bn h (fun r6 σ6 h => n_rt h)))))
-- TradeTestsModel.isDay
set_option maxHeartbeats 20000000 in
set_option maxRecDepth 100000 in
theorem ve_124 {sc : Nat × (Nat → Int32)} {C : CT} (hC : MonC C) {Q : Int32 → St → Prop} (x1 : Int32) (σ : St) (v : C 123 [.int x1, .int 0, .int 9999] σ (fun r3 σ3 => (r3 = 0 ∨ r3 = 1) ∧ Q r3 σ3)) : Ex sc C 2 cd_124 Q 0 [some (.int x1)] [] σ := wpn_Ex (cuts := []) hC (fun _ _ _ _ z => z) 6 0 _ _ _ v
set_option maxHeartbeats 20000000 in
set_option maxRecDepth 100000 in
theorem hp_124 {sc : Nat × (Nat → Int32)} {Q : Int32 → St → Prop} {x1 : Int32} {σ : St} (h : Ap (sp_124 x1 σ) Q) : Ex sc CC 2 cd_124 Q 0 [some (.int x1)] [] σ := by
  exact ve_124 monCC x1 σ (cc_123 (n_bn h (fun r3 σ3 h => n_rb h)))
-- TradeTestsModel.isVehicle
set_option maxHeartbeats 20000000 in
set_option maxRecDepth 100000 in
theorem ve_127 {sc : Nat × (Nat → Int32)} {C : CT} (hC : MonC C) {Q : Int32 → St → Prop} (x1 : Int32) (σ : St) (v : C 123 [.int x1, .int 0, .int ((σ 12 0) - 1)] σ (fun r3 σ3 => (r3 = 0 ∨ r3 = 1) ∧ Q r3 σ3)) : Ex sc C 2 cd_127 Q 0 [some (.ref 12), some (.int x1)] [] σ := wpn_Ex (cuts := []) hC (fun _ _ _ _ z => z) 9 0 _ _ _ v
set_option maxHeartbeats 20000000 in
set_option maxRecDepth 100000 in
theorem hp_127 {sc : Nat × (Nat → Int32)} {Q : Int32 → St → Prop} {x1 : Int32} {σ : St} (h : Ap (sp_127 x1 σ) Q) : Ex sc CC 2 cd_127 Q 0 [some (.ref 12), some (.int x1)] [] σ := by
  exact ve_127 monCC x1 σ (cc_123 (n_bn h (fun r3 σ3 h => n_rb h)))
-- TradeTestsModel.garage
set_option maxHeartbeats 20000000 in
set_option maxRecDepth 100000 in
theorem ve_130 {sc : Nat × (Nat → Int32)} {C : CT} (hC : MonC C) {Q : Int32 → St → Prop} (x1 x2 : Int32) (σ : St) (v : C 123 [.int x1, .int 0, .int 1439] σ (fun r11 σ11 => (r11 = 0 → C 125 [.ref 12, .int 1] σ11 (fun r12 σ12 => Q r12 σ12)) ∧ (¬ r11 = 0 → C 123 [.int x2, .int (x1 + 1), .int 1440] σ11 (fun r13 σ13 => (¬ r13 = 0 → (¬ (σ13 12 1) = 6 → vp_in (σ13 12 1) 6 ∧ (vp_in (σ13 12 1) 6 ∧ (Q (((σ13 12 1) + 1) - 1) (up (up (up σ13 53 (σ13 12 1).toNatClampNeg x1) 54 (σ13 12 1).toNatClampNeg x2) 12 1 ((σ13 12 1) + 1))))) ∧ ((σ13 12 1) = 6 → C 125 [.ref 12, .int 4] σ13 (fun r14 σ14 => Q r14 σ14))) ∧ (r13 = 0 → C 125 [.ref 12, .int 1] σ13 (fun r15 σ15 => Q r15 σ15)))))) : Ex sc C 1 cd_130 Q 0 [some (.ref 12), some (.int x1), some (.int x2)] [] σ := wpn_Ex (cuts := []) hC (fun _ _ _ _ z => z) 40 0 _ _ _ v
set_option maxHeartbeats 20000000 in
set_option maxRecDepth 100000 in
theorem hp_130 {sc : Nat × (Nat → Int32)} {Q : Int32 → St → Prop} {x1 x2 : Int32} {σ : St} (h : Ap (sp_130 x1 x2 σ) Q) : Ex sc CC 1 cd_130 Q 0 [some (.ref 12), some (.int x1), some (.int x2)] [] σ := by
  exact ve_130 monCC x1 x2 σ (cc_123 (n_bn h (fun r11 σ11 h => n_if h (fun h => cc_125 (n_bn h (fun r12 σ12 h => n_rt h))) (fun h => cc_123 (n_bn h (fun r13 σ13 h => n_ne h (fun h => cc_125 (n_bn h (fun r15 σ15 h => n_rt h))) (fun h => n_ne h (fun h => cc_125 (n_bn h (fun r14 σ14 h => n_rt h))) (fun h => n_mb h (fun h => n_mb h (fun h => n_rt h))))))))))
-- TradeTestsModel.isGarage
set_option maxHeartbeats 20000000 in
set_option maxRecDepth 100000 in
theorem ve_132 {sc : Nat × (Nat → Int32)} {C : CT} (hC : MonC C) {Q : Int32 → St → Prop} (x1 : Int32) (σ : St) (v : C 123 [.int x1, .int 0, .int ((σ 12 1) - 1)] σ (fun r3 σ3 => (r3 = 0 ∨ r3 = 1) ∧ Q r3 σ3)) : Ex sc C 2 cd_132 Q 0 [some (.ref 12), some (.int x1)] [] σ := wpn_Ex (cuts := []) hC (fun _ _ _ _ z => z) 9 0 _ _ _ v
set_option maxHeartbeats 20000000 in
set_option maxRecDepth 100000 in
theorem hp_132 {sc : Nat × (Nat → Int32)} {Q : Int32 → St → Prop} {x1 : Int32} {σ : St} (h : Ap (sp_132 x1 σ) Q) : Ex sc CC 2 cd_132 Q 0 [some (.ref 12), some (.int x1)] [] σ := by
  exact ve_132 monCC x1 σ (cc_123 (n_bn h (fun r3 σ3 h => n_rb h)))
-- TradeTestsModel.isTester
set_option maxHeartbeats 20000000 in
set_option maxRecDepth 100000 in
theorem ve_134 {sc : Nat × (Nat → Int32)} {C : CT} (hC : MonC C) {Q : Int32 → St → Prop} (x1 : Int32) (σ : St) (v : C 123 [.int x1, .int 0, .int ((σ 12 2) - 1)] σ (fun r3 σ3 => (r3 = 0 ∨ r3 = 1) ∧ Q r3 σ3)) : Ex sc C 2 cd_134 Q 0 [some (.ref 12), some (.int x1)] [] σ := wpn_Ex (cuts := []) hC (fun _ _ _ _ z => z) 9 0 _ _ _ v
set_option maxHeartbeats 20000000 in
set_option maxRecDepth 100000 in
theorem hp_134 {sc : Nat × (Nat → Int32)} {Q : Int32 → St → Prop} {x1 : Int32} {σ : St} (h : Ap (sp_134 x1 σ) Q) : Ex sc CC 2 cd_134 Q 0 [some (.ref 12), some (.int x1)] [] σ := by
  exact ve_134 monCC x1 σ (cc_123 (n_bn h (fun r3 σ3 h => n_rb h)))
-- TradeTestsModel.isTest
set_option maxHeartbeats 20000000 in
set_option maxRecDepth 100000 in
theorem ve_140 {sc : Nat × (Nat → Int32)} {C : CT} (hC : MonC C) {Q : Int32 → St → Prop} (x1 : Int32) (σ : St) (v : C 123 [.int x1, .int 0, .int ((σ 12 4) - 1)] σ (fun r3 σ3 => (r3 = 0 ∨ r3 = 1) ∧ Q r3 σ3)) : Ex sc C 2 cd_140 Q 0 [some (.ref 12), some (.int x1)] [] σ := wpn_Ex (cuts := []) hC (fun _ _ _ _ z => z) 9 0 _ _ _ v
set_option maxHeartbeats 20000000 in
set_option maxRecDepth 100000 in
theorem hp_140 {sc : Nat × (Nat → Int32)} {Q : Int32 → St → Prop} {x1 : Int32} {σ : St} (h : Ap (sp_140 x1 σ) Q) : Ex sc CC 2 cd_140 Q 0 [some (.ref 12), some (.int x1)] [] σ := by
  exact ve_140 monCC x1 σ (cc_123 (n_bn h (fun r3 σ3 h => n_rb h)))
-- TradeTestsModel.garageOf
set_option maxHeartbeats 20000000 in
set_option maxRecDepth 100000 in
theorem ve_141 {sc : Nat × (Nat → Int32)} {C : CT} (hC : MonC C) {Q : Int32 → St → Prop} (x1 : Int32) (σ : St) (v : vp_in x1 80 ∧ (vp_in x1 80 ∧ (C 135 [.ref 12, .int (σ 60 (x1).toNatClampNeg), .int (σ 61 (x1).toNatClampNeg)] σ (fun r3 σ3 => Q r3 σ3)))) : Ex sc C 1 cd_141 Q 0 [some (.ref 12), some (.int x1)] [] σ := wpn_Ex (cuts := []) hC (fun _ _ _ _ z => z) 12 0 _ _ _ v
set_option maxHeartbeats 20000000 in
set_option maxRecDepth 100000 in
theorem hp_141 {sc : Nat × (Nat → Int32)} {Q : Int32 → St → Prop} {x1 : Int32} {σ : St} (h : Ap (sp_141 x1 σ) Q) : Ex sc CC 1 cd_141 Q 0 [some (.ref 12), some (.int x1)] [] σ := by
  exact ve_141 monCC x1 σ (n_mb h (fun h => n_mb h (fun h => cc_135 (n_bn h (fun r3 σ3 h => n_rt h)))))
-- TradeTestsModel.feed
set_option maxHeartbeats 20000000 in
set_option maxRecDepth 100000 in
theorem ve_142 {sc : Nat × (Nat → Int32)} {C : CT} (hC : MonC C) {Q : Int32 → St → Prop} (x1 : Int32) (σ : St) (v : C 123 [.int x1, .int 0, .int 255] σ (fun r7 σ7 => (¬ r7 = 0 → (¬ (σ7 12 9) = 60 → vp_in (σ7 12 9) 60 ∧ (Q ((σ7 12 9) + 1) (up (up σ7 78 (σ7 12 9).toNatClampNeg x1) 12 9 ((σ7 12 9) + 1)))) ∧ ((σ7 12 9) = 60 → C 125 [.ref 12, .int 4] σ7 (fun r8 σ8 => Q r8 σ8))) ∧ (r7 = 0 → C 125 [.ref 12, .int 1] σ7 (fun r9 σ9 => Q r9 σ9)))) : Ex sc C 1 cd_142 Q 0 [some (.ref 12), some (.int x1)] [] σ := wpn_Ex (cuts := []) hC (fun _ _ _ _ z => z) 25 0 _ _ _ v
set_option maxHeartbeats 20000000 in
set_option maxRecDepth 100000 in
theorem hp_142 {sc : Nat × (Nat → Int32)} {Q : Int32 → St → Prop} {x1 : Int32} {σ : St} (h : Ap (sp_142 x1 σ) Q) : Ex sc CC 1 cd_142 Q 0 [some (.ref 12), some (.int x1)] [] σ := by
  exact ve_142 monCC x1 σ (cc_123 (n_bn h (fun r7 σ7 h => n_ne h (fun h => cc_125 (n_bn h (fun r9 σ9 h => n_rt h))) (fun h => n_ne h (fun h => cc_125 (n_bn h (fun r8 σ8 h => n_rt h))) (fun h => n_mb h (fun h => n_rt h))))))
-- TradeTestsModel.readsFault
set_option maxHeartbeats 20000000 in
set_option maxRecDepth 100000 in
set_option maxHeartbeats 20000000 in
set_option maxRecDepth 100000 in
theorem vh_146_124 {sc : Nat × (Nat → Int32)} {C : CT} (hC : MonC C) {Q : Int32 → St → Prop} (v1 : Int32) (v2 : Int32) (v3 : Int32) (v4 : Int32) (σ : St) (v : (4 ≤ v4 → ((1 : Int32) = 0 ∨ (1 : Int32) = 1) ∧ Q 1 σ) ∧ (¬ 4 ≤ v4 → vp_in (((4 : Int32) * v1) + v4) 28 ∧ (C 128 [.int v4, .int v3] σ (fun r17 σ17 => (r17 = 0 → vp_in (((4 : Int32) * v1) + v4) 28 ∧ (Ex sc C 2 cd_146 Q 124 [some (.ref 12), some (.int v1), some (.int v2), some (.int v3), some (.int (v4 + 1))] [] (up σ17 76 (((4 : Int32) * v1) + v4).toNatClampNeg ((σ 76 (((4 : Int32) * v1) + v4).toNatClampNeg) ||| 0)))) ∧ (¬ r17 = 0 → vp_in (((4 : Int32) * v1) + v4) 28 ∧ (Ex sc C 2 cd_146 Q 124 [some (.ref 12), some (.int v1), some (.int v2), some (.int v3), some (.int (v4 + 1))] [] (up σ17 76 (((4 : Int32) * v1) + v4).toNatClampNeg ((σ 76 (((4 : Int32) * v1) + v4).toNatClampNeg) ||| ((1 : Int32) <<< (v2 &&& 31)))))))))) : Ex sc C 2 cd_146 Q 124 [some (.ref 12), some (.int v1), some (.int v2), some (.int v3), some (.int v4)] [] σ := stw_Ex (cuts := [84, 124]) hC 25 v
theorem hl_146_124 {sc : Nat × (Nat → Int32)} {Q : Int32 → St → Prop} : ∀ (n : Nat) (v1 : Int32) (v2 : Int32) (v3 : Int32) (v4 : Int32) (σ : St), Ap (lp_146_124 n v1 v2 v3 v4 σ) Q → Ex sc CC 2 cd_146 Q 124 [some (.ref 12), some (.int v1), some (.int v2), some (.int v3), some (.int v4)] [] σ := by
  intro n
  induction n with
  | zero => intro v1 v2 v3 v4 σ h; exact n_no h
  | succ n ih =>
    intro v1 v2 v3 v4 σ h
    exact vh_146_124 monCC v1 v2 v3 v4 σ (n_if h (fun h => n_rb h) (fun h => n_mb h (fun h => cc_128 (n_bn h (fun r17 σ17 h => n_if h (fun h => n_mb h (fun h => ih v1 v2 v3 (v4 + 1) (up σ17 76 (((4 : Int32) * v1) + v4).toNatClampNeg ((σ 76 (((4 : Int32) * v1) + v4).toNatClampNeg) ||| 0)) h)) (fun h => n_mb h (fun h => ih v1 v2 v3 (v4 + 1) (up σ17 76 (((4 : Int32) * v1) + v4).toNatClampNeg ((σ 76 (((4 : Int32) * v1) + v4).toNatClampNeg) ||| ((1 : Int32) <<< (v2 &&& 31)))) h)))))))
set_option maxHeartbeats 20000000 in
set_option maxRecDepth 100000 in
set_option maxHeartbeats 20000000 in
set_option maxRecDepth 100000 in
theorem vh_146_84 {sc : Nat × (Nat → Int32)} {C : CT} (hC : MonC C) {Q : Int32 → St → Prop} (v1 : Int32) (v2 : Int32) (v3 : Int32) (σ : St) (v : (0 ≤ v3 → C 145 [.ref 12] (up σ 12 45 ((σ 12 45) + 1)) (fun r18 σ18 => (r18 = 59 → Ex sc C 2 cd_146 Q 124 [some (.ref 12), some (.int v1), some (.int v2), some (.int v3), some (.int 0)] [] (up σ18 12 45 ((σ18 12 45) + 1))) ∧ (¬ r18 = 59 → ((0 : Int32) = 0 ∨ (0 : Int32) = 1) ∧ Q 0 σ18))) ∧ (¬ 0 ≤ v3 → ((0 : Int32) = 0 ∨ (0 : Int32) = 1) ∧ Q 0 σ)) : Ex sc C 2 cd_146 Q 84 [some (.ref 12), some (.int v1), some (.int v2), some (.int v3), none] [] σ := stw_Ex (cuts := [84, 124]) hC 21 v
theorem hl_146_84 {sc : Nat × (Nat → Int32)} {Q : Int32 → St → Prop} : ∀ (v1 : Int32) (v2 : Int32) (v3 : Int32) (σ : St), Ap (lp_146_84 v1 v2 v3 σ) Q → Ex sc CC 2 cd_146 Q 84 [some (.ref 12), some (.int v1), some (.int v2), some (.int v3), none] [] σ := by
  intro v1 v2 v3 σ h
  exact vh_146_84 monCC v1 v2 v3 σ (n_if h (fun h => cc_145 (n_bn h (fun r18 σ18 h => n_if h (fun h => hl_146_124 FU v1 v2 v3 0 (up σ18 12 45 ((σ18 12 45) + 1)) h) (fun h => n_rb h)))) (fun h => n_rb h))
set_option maxHeartbeats 20000000 in
set_option maxRecDepth 100000 in
theorem ve_146 {sc : Nat × (Nat → Int32)} {C : CT} (hC : MonC C) {Q : Int32 → St → Prop} (x1 : Int32) (σ : St) (v : C 145 [.ref 12] σ (fun r19 σ19 => C 123 [.int (r19 - 48), .int 0, .int 7] σ19 (fun r20 σ20 => (¬ r20 = 0 → C 145 [.ref 12] (up σ20 12 45 ((σ20 12 45) + 1)) (fun r21 σ21 => (¬ r21 = 118 → C 145 [.ref 12] σ21 (fun r22 σ22 => (¬ r22 = 99 → C 145 [.ref 12] σ22 (fun r23 σ23 => (¬ r23 = 116 → C 145 [.ref 12] σ23 (fun r24 σ24 => (¬ r24 = 114 → Ex sc C 2 cd_146 Q 84 [some (.ref 12), some (.int x1), some (.int (r19 - 48)), some (.int (-1)), none] [] σ24) ∧ (r24 = 114 → Ex sc C 2 cd_146 Q 84 [some (.ref 12), some (.int x1), some (.int (r19 - 48)), some (.int 3), none] [] σ24))) ∧ (r23 = 116 → Ex sc C 2 cd_146 Q 84 [some (.ref 12), some (.int x1), some (.int (r19 - 48)), some (.int 2), none] [] σ23))) ∧ (r22 = 99 → Ex sc C 2 cd_146 Q 84 [some (.ref 12), some (.int x1), some (.int (r19 - 48)), some (.int 1), none] [] σ22))) ∧ (r21 = 118 → Ex sc C 2 cd_146 Q 84 [some (.ref 12), some (.int x1), some (.int (r19 - 48)), some (.int 0), none] [] σ21))) ∧ (r20 = 0 → ((0 : Int32) = 0 ∨ (0 : Int32) = 1) ∧ Q 0 σ20)))) : Ex sc C 2 cd_146 Q 0 [some (.ref 12), some (.int x1), none, none, none] [] σ := wpn_Ex (cuts := [84, 124]) hC (fun _ _ _ _ z => z) 37 0 _ _ _ v
set_option maxHeartbeats 20000000 in
set_option maxRecDepth 100000 in
theorem hp_146 {sc : Nat × (Nat → Int32)} {Q : Int32 → St → Prop} {x1 : Int32} {σ : St} (h : Ap (sp_146 x1 σ) Q) : Ex sc CC 2 cd_146 Q 0 [some (.ref 12), some (.int x1), none, none, none] [] σ := by
  exact ve_146 monCC x1 σ (cc_145 (n_bn h (fun r19 σ19 h => cc_123 (n_bn h (fun r20 σ20 h => n_ne h (fun h => n_rb h) (fun h => cc_145 (n_bn h (fun r21 σ21 h => n_ne h (fun h => hl_146_84 x1 (r19 - 48) 0 σ21 h) (fun h => cc_145 (n_bn h (fun r22 σ22 h => n_ne h (fun h => hl_146_84 x1 (r19 - 48) 1 σ22 h) (fun h => cc_145 (n_bn h (fun r23 σ23 h => n_ne h (fun h => hl_146_84 x1 (r19 - 48) 2 σ23 h) (fun h => cc_145 (n_bn h (fun r24 σ24 h => n_ne h (fun h => hl_146_84 x1 (r19 - 48) 3 σ24 h) (fun h => hl_146_84 x1 (r19 - 48) (-1) σ24 h))))))))))))))))))
