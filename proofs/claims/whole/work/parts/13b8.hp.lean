/-! the code does what the functions say (written by wip/whole/gen/spec.py) -/
-- TradeTestsModel.reads
set_option maxHeartbeats 20000000 in
set_option maxRecDepth 100000 in
set_option maxHeartbeats 20000000 in
set_option maxRecDepth 100000 in
theorem vh_144_155 {sc : Nat × (Nat → Int32)} {C : CT} (hC : MonC C) {Q : Int32 → St → Prop} (v1 : Int32) (v2 : Int32) (v3 : Int32) (σ : St) (v : (¬ v2 = 100 → vp_in v1 7 ∧ (vp_in v1 7 ∧ (Ex sc C 2 cd_144 Q 49 [some (.ref 12), some (.int v1), some (.int v2), some (.int v3)] [] (up σ 75 (v1).toNatClampNeg (σ 75 (v1).toNatClampNeg))))) ∧ (v2 = 100 → vp_in v1 7 ∧ (Ex sc C 2 cd_144 Q 49 [some (.ref 12), some (.int v1), some (.int v2), some (.int v3)] [] (up σ 75 (v1).toNatClampNeg v3)))) : Ex sc C 2 cd_144 Q 155 [some (.ref 12), some (.int v1), some (.int v2), some (.int v3)] [] σ := stw_Ex (cuts := [22, 49, 85, 127, 155]) hC 13 v
theorem hl_144_155 {sc : Nat × (Nat → Int32)} {Q : Int32 → St → Prop} (ko : Int32 → Int32 → St → MR) (hko : ∀ (v1 : Int32) (v2 : Int32) (σ : St), Ap (ko v1 v2 σ) Q → Ex sc CC 2 cd_144 Q 49 [some (.ref 12), some (.int v1), some (.int v2), none] [] σ) : ∀ (v1 : Int32) (v2 : Int32) (v3 : Int32) (σ : St), Ap (lp_144_155 ko v1 v2 v3 σ) Q → Ex sc CC 2 cd_144 Q 155 [some (.ref 12), some (.int v1), some (.int v2), some (.int v3)] [] σ := by
  intro v1 v2 v3 σ h
  exact vh_144_155 monCC v1 v2 v3 σ (n_ne h (fun h => n_mb h (fun h => Ex_fg [true, true, true, false] (hko v1 v2 (up σ 75 (v1).toNatClampNeg v3) h))) (fun h => n_mb h (fun h => n_mb h (fun h => Ex_fg [true, true, true, false] (hko v1 v2 (up σ 75 (v1).toNatClampNeg (σ 75 (v1).toNatClampNeg)) h)))))
set_option maxHeartbeats 20000000 in
set_option maxRecDepth 100000 in
set_option maxHeartbeats 20000000 in
set_option maxRecDepth 100000 in
theorem vh_144_127 {sc : Nat × (Nat → Int32)} {C : CT} (hC : MonC C) {Q : Int32 → St → Prop} (v1 : Int32) (v2 : Int32) (v3 : Int32) (σ : St) (v : (0 ≤ v3 → (¬ v2 = 98 → vp_in v1 7 ∧ (vp_in v1 7 ∧ (Ex sc C 2 cd_144 Q 155 [some (.ref 12), some (.int v1), some (.int v2), some (.int v3)] [] (up σ 74 (v1).toNatClampNeg (σ 74 (v1).toNatClampNeg))))) ∧ (v2 = 98 → vp_in v1 7 ∧ (Ex sc C 2 cd_144 Q 155 [some (.ref 12), some (.int v1), some (.int v2), some (.int v3)] [] (up σ 74 (v1).toNatClampNeg v3)))) ∧ (¬ 0 ≤ v3 → ((0 : Int32) = 0 ∨ (0 : Int32) = 1) ∧ Q 0 σ)) : Ex sc C 2 cd_144 Q 127 [some (.ref 12), some (.int v1), some (.int v2), some (.int v3)] [] σ := stw_Ex (cuts := [22, 49, 85, 127, 155]) hC 14 v
theorem hl_144_127 {sc : Nat × (Nat → Int32)} {Q : Int32 → St → Prop} (ko : Int32 → Int32 → St → MR) (hko : ∀ (v1 : Int32) (v2 : Int32) (σ : St), Ap (ko v1 v2 σ) Q → Ex sc CC 2 cd_144 Q 49 [some (.ref 12), some (.int v1), some (.int v2), none] [] σ) : ∀ (v1 : Int32) (v2 : Int32) (v3 : Int32) (σ : St), Ap (lp_144_127 ko v1 v2 v3 σ) Q → Ex sc CC 2 cd_144 Q 127 [some (.ref 12), some (.int v1), some (.int v2), some (.int v3)] [] σ := by
  intro v1 v2 v3 σ h
  exact vh_144_127 monCC v1 v2 v3 σ (n_if h (fun h => n_ne h (fun h => n_mb h (fun h => hl_144_155 ko hko v1 v2 v3 (up σ 74 (v1).toNatClampNeg v3) h)) (fun h => n_mb h (fun h => n_mb h (fun h => hl_144_155 ko hko v1 v2 v3 (up σ 74 (v1).toNatClampNeg (σ 74 (v1).toNatClampNeg)) h)))) (fun h => n_rb h))
set_option maxHeartbeats 20000000 in
set_option maxRecDepth 100000 in
set_option maxHeartbeats 20000000 in
set_option maxRecDepth 100000 in
theorem vh_144_85 {sc : Nat × (Nat → Int32)} {C : CT} (hC : MonC C) {Q : Int32 → St → Prop} (v1 : Int32) (v2 : Int32) (σ : St) (v : (¬ v2 = 102 → (¬ v2 = 98 → C 147 [.ref 12, .int 2] (up σ 12 45 ((σ 12 45) + 1)) (fun r9 σ9 => Ex sc C 2 cd_144 Q 127 [some (.ref 12), some (.int v1), some (.int v2), some (.int r9)] [] σ9)) ∧ (v2 = 98 → C 147 [.ref 12, .int 3] (up σ 12 45 ((σ 12 45) + 1)) (fun r10 σ10 => Ex sc C 2 cd_144 Q 127 [some (.ref 12), some (.int v1), some (.int v2), some (.int r10)] [] σ10))) ∧ (v2 = 102 → C 146 [.ref 12, .int v1] (up σ 12 45 ((σ 12 45) + 1)) (fun r11 σ11 => (¬ r11 = 0 → Ex sc C 2 cd_144 Q 49 [some (.ref 12), some (.int v1), some (.int v2), none] [] σ11) ∧ (r11 = 0 → ((0 : Int32) = 0 ∨ (0 : Int32) = 1) ∧ Q 0 σ11)))) : Ex sc C 2 cd_144 Q 85 [some (.ref 12), some (.int v1), some (.int v2), none] [] σ := stw_Ex (cuts := [22, 49, 85, 127, 155]) hC 18 v
theorem hl_144_85 {sc : Nat × (Nat → Int32)} {Q : Int32 → St → Prop} (ko : Int32 → Int32 → St → MR) (hko : ∀ (v1 : Int32) (v2 : Int32) (σ : St), Ap (ko v1 v2 σ) Q → Ex sc CC 2 cd_144 Q 49 [some (.ref 12), some (.int v1), some (.int v2), none] [] σ) : ∀ (v1 : Int32) (v2 : Int32) (σ : St), Ap (lp_144_85 ko v1 v2 σ) Q → Ex sc CC 2 cd_144 Q 85 [some (.ref 12), some (.int v1), some (.int v2), none] [] σ := by
  intro v1 v2 σ h
  exact vh_144_85 monCC v1 v2 σ (n_ne h (fun h => cc_146 (n_bn h (fun r11 σ11 h => n_ne h (fun h => n_rb h) (fun h => hko v1 v2 σ11 h)))) (fun h => n_ne h (fun h => cc_147 (n_bn h (fun r10 σ10 h => hl_144_127 ko hko v1 v2 r10 σ10 h))) (fun h => cc_147 (n_bn h (fun r9 σ9 h => hl_144_127 ko hko v1 v2 r9 σ9 h)))))
set_option maxHeartbeats 20000000 in
set_option maxRecDepth 100000 in
set_option maxHeartbeats 20000000 in
set_option maxRecDepth 100000 in
theorem vh_144_49 {sc : Nat × (Nat → Int32)} {C : CT} (hC : MonC C) {Q : Int32 → St → Prop} (v1 : Int32) (v2 : Int32) (σ : St) (v : ((σ 12 9) ≤ (σ 12 45) → ((1 : Int32) = 0 ∨ (1 : Int32) = 1) ∧ Q 1 σ) ∧ (¬ (σ 12 9) ≤ (σ 12 45) → C 145 [.ref 12] σ (fun r12 σ12 => (r12 = 98 → Ex sc C 2 cd_144 Q 85 [some (.ref 12), some (.int v1), some (.int r12), none] [] σ12) ∧ (¬ r12 = 98 → (r12 = 100 → Ex sc C 2 cd_144 Q 85 [some (.ref 12), some (.int v1), some (.int r12), none] [] σ12) ∧ (¬ r12 = 100 → (r12 = 102 → Ex sc C 2 cd_144 Q 85 [some (.ref 12), some (.int v1), some (.int r12), none] [] σ12) ∧ (¬ r12 = 102 → ((0 : Int32) = 0 ∨ (0 : Int32) = 1) ∧ Q 0 σ12)))))) : Ex sc C 2 cd_144 Q 49 [some (.ref 12), some (.int v1), some (.int v2), none] [] σ := stw_Ex (cuts := [22, 49, 85, 127, 155]) hC 19 v
theorem hl_144_49 {sc : Nat × (Nat → Int32)} {Q : Int32 → St → Prop} : ∀ (n : Nat) (v1 : Int32) (v2 : Int32) (σ : St), Ap (lp_144_49 n v1 v2 σ) Q → Ex sc CC 2 cd_144 Q 49 [some (.ref 12), some (.int v1), some (.int v2), none] [] σ := by
  intro n
  induction n with
  | zero => intro v1 v2 σ h; exact n_no h
  | succ n ih =>
    intro v1 v2 σ h
    exact vh_144_49 monCC v1 v2 σ (n_if h (fun h => n_rb h) (fun h => cc_145 (n_bn h (fun r12 σ12 h => n_if h (fun h => hl_144_85 (fun v1 v2 σ => lp_144_49 n v1 v2 σ) ih v1 r12 σ12 h) (fun h => n_if h (fun h => hl_144_85 (fun v1 v2 σ => lp_144_49 n v1 v2 σ) ih v1 r12 σ12 h) (fun h => n_if h (fun h => hl_144_85 (fun v1 v2 σ => lp_144_49 n v1 v2 σ) ih v1 r12 σ12 h) (fun h => n_rb h)))))))
set_option maxHeartbeats 20000000 in
set_option maxRecDepth 100000 in
set_option maxHeartbeats 20000000 in
set_option maxRecDepth 100000 in
theorem vh_144_22 {sc : Nat × (Nat → Int32)} {C : CT} (hC : MonC C) {Q : Int32 → St → Prop} (v1 : Int32) (v2 : Int32) (σ : St) (v : (4 ≤ v2 → Ex sc C 2 cd_144 Q 49 [some (.ref 12), some (.int v1), some (.int v2), none] [] (up σ 12 45 0)) ∧ (¬ 4 ≤ v2 → vp_in (((4 : Int32) * v1) + v2) 28 ∧ (Ex sc C 2 cd_144 Q 22 [some (.ref 12), some (.int v1), some (.int (v2 + 1)), none] [] (up σ 76 (((4 : Int32) * v1) + v2).toNatClampNeg 0)))) : Ex sc C 2 cd_144 Q 22 [some (.ref 12), some (.int v1), some (.int v2), none] [] σ := stw_Ex (cuts := [22, 49, 85, 127, 155]) hC 15 v
theorem hl_144_22 {sc : Nat × (Nat → Int32)} {Q : Int32 → St → Prop} : ∀ (n : Nat) (v1 : Int32) (v2 : Int32) (σ : St), Ap (lp_144_22 n v1 v2 σ) Q → Ex sc CC 2 cd_144 Q 22 [some (.ref 12), some (.int v1), some (.int v2), none] [] σ := by
  intro n
  induction n with
  | zero => intro v1 v2 σ h; exact n_no h
  | succ n ih =>
    intro v1 v2 σ h
    exact vh_144_22 monCC v1 v2 σ (n_if h (fun h => hl_144_49 FU v1 v2 (up σ 12 45 0) h) (fun h => n_mb h (fun h => ih v1 (v2 + 1) (up σ 76 (((4 : Int32) * v1) + v2).toNatClampNeg 0) h)))
set_option maxHeartbeats 20000000 in
set_option maxRecDepth 100000 in
theorem ve_144 {sc : Nat × (Nat → Int32)} {C : CT} (hC : MonC C) {Q : Int32 → St → Prop}  (σ : St) (v : vp_in (σ 12 5) 7 ∧ (vp_in (σ 12 5) 7 ∧ (Ex sc C 2 cd_144 Q 22 [some (.ref 12), some (.int (σ 12 5)), some (.int 0), none] [] (up (up σ 74 (σ 12 5).toNatClampNeg 0) 75 (σ 12 5).toNatClampNeg 100)))) : Ex sc C 2 cd_144 Q 0 [some (.ref 12), none, none, none] [] σ := wpn_Ex (cuts := [22, 49, 85, 127, 155]) hC (fun _ _ _ _ z => z) 17 0 _ _ _ v
set_option maxHeartbeats 20000000 in
set_option maxRecDepth 100000 in
theorem hp_144 {sc : Nat × (Nat → Int32)} {Q : Int32 → St → Prop}  {σ : St} (h : Ap (sp_144  σ) Q) : Ex sc CC 2 cd_144 Q 0 [some (.ref 12), none, none, none] [] σ := by
  exact ve_144 monCC  σ (n_mb h (fun h => n_mb h (fun h => hl_144_22 FU (σ 12 5) 0 (up (up σ 74 (σ 12 5).toNatClampNeg 0) 75 (σ 12 5).toNatClampNeg 100) h)))
-- TradeTestsModel.says
set_option maxHeartbeats 20000000 in
set_option maxRecDepth 100000 in
theorem ve_149 {sc : Nat × (Nat → Int32)} {C : CT} (hC : MonC C) {Q : Int32 → St → Prop} (x1 x2 : Int32) (σ : St) (v : C 124 [.int x1] σ (fun r19 σ19 => (r19 = 0 → C 125 [.ref 12, .int 1] σ19 (fun r20 σ20 => Q r20 σ20)) ∧ (¬ r19 = 0 → C 123 [.int x2, .int 0, .int 1] σ19 (fun r21 σ21 => (¬ r21 = 0 → C 150 [.ref 12, .int x1] σ21 (fun r22 σ22 => (0 ≤ r22 → (¬ x2 = 0 → (¬ x2 = 1 → vp_in ((((4 : Int32) * r22) + x2) - 10) 28 ∧ (Q (σ22 76 ((((4 : Int32) * r22) + x2) - 10).toNatClampNeg) σ22)) ∧ (x2 = 1 → vp_in r22 7 ∧ (Q (σ22 75 (r22).toNatClampNeg) σ22))) ∧ (x2 = 0 → vp_in r22 7 ∧ (Q (σ22 74 (r22).toNatClampNeg) σ22))) ∧ (¬ 0 ≤ r22 → C 125 [.ref 12, .int 2] σ22 (fun r23 σ23 => Q r23 σ23)))) ∧ (r21 = 0 → C 123 [.int x2, .int 10, .int 13] σ21 (fun r24 σ24 => (¬ r24 = 0 → C 150 [.ref 12, .int x1] σ24 (fun r25 σ25 => (0 ≤ r25 → (¬ x2 = 0 → (¬ x2 = 1 → vp_in ((((4 : Int32) * r25) + x2) - 10) 28 ∧ (Q (σ25 76 ((((4 : Int32) * r25) + x2) - 10).toNatClampNeg) σ25)) ∧ (x2 = 1 → vp_in r25 7 ∧ (Q (σ25 75 (r25).toNatClampNeg) σ25))) ∧ (x2 = 0 → vp_in r25 7 ∧ (Q (σ25 74 (r25).toNatClampNeg) σ25))) ∧ (¬ 0 ≤ r25 → C 125 [.ref 12, .int 2] σ25 (fun r26 σ26 => Q r26 σ26)))) ∧ (r24 = 0 → C 125 [.ref 12, .int 1] σ24 (fun r27 σ27 => Q r27 σ27)))))))) : Ex sc C 1 cd_149 Q 0 [some (.ref 12), some (.int x1), some (.int x2), none] [] σ := wpn_Ex (cuts := []) hC (fun _ _ _ _ z => z) 36 0 _ _ _ v
set_option maxHeartbeats 20000000 in
set_option maxRecDepth 100000 in
theorem hp_149 {sc : Nat × (Nat → Int32)} {Q : Int32 → St → Prop} {x1 x2 : Int32} {σ : St} (h : Ap (sp_149 x1 x2 σ) Q) : Ex sc CC 1 cd_149 Q 0 [some (.ref 12), some (.int x1), some (.int x2), none] [] σ := by
  exact ve_149 monCC x1 x2 σ (cc_124 (n_bn h (fun r19 σ19 h => n_if h (fun h => cc_125 (n_bn h (fun r20 σ20 h => n_rt h))) (fun h => cc_123 (n_bn h (fun r21 σ21 h => n_ne h (fun h => cc_123 (n_bn h (fun r24 σ24 h => n_ne h (fun h => cc_125 (n_bn h (fun r27 σ27 h => n_rt h))) (fun h => cc_150 (n_bn h (fun r25 σ25 h => n_if h (fun h => n_ne h (fun h => n_mb h (fun h => n_rt h)) (fun h => n_ne h (fun h => n_mb h (fun h => n_rt h)) (fun h => n_mb h (fun h => n_rt h)))) (fun h => cc_125 (n_bn h (fun r26 σ26 h => n_rt h))))))))) (fun h => cc_150 (n_bn h (fun r22 σ22 h => n_if h (fun h => n_ne h (fun h => n_mb h (fun h => n_rt h)) (fun h => n_ne h (fun h => n_mb h (fun h => n_rt h)) (fun h => n_mb h (fun h => n_rt h)))) (fun h => cc_125 (n_bn h (fun r23 σ23 h => n_rt h))))))))))))
-- TradeTestsModel.verdict
set_option maxHeartbeats 20000000 in
set_option maxRecDepth 100000 in
theorem ve_151 {sc : Nat × (Nat → Int32)} {C : CT} (hC : MonC C) {Q : Int32 → St → Prop} (x1 : Int32) (σ : St) (v : C 140 [.ref 12, .int x1] σ (fun r7 σ7 => (¬ r7 = 0 → C 152 [.ref 12, .int x1] σ7 (fun r8 σ8 => (r8 = 0 → Q 0 σ8) ∧ (¬ r8 = 0 → Q 1 σ8))) ∧ (r7 = 0 → C 125 [.ref 12, .int 1] σ7 (fun r9 σ9 => Q r9 σ9)))) : Ex sc C 1 cd_151 Q 0 [some (.ref 12), some (.int x1)] [] σ := wpn_Ex (cuts := []) hC (fun _ _ _ _ z => z) 12 0 _ _ _ v
set_option maxHeartbeats 20000000 in
set_option maxRecDepth 100000 in
theorem hp_151 {sc : Nat × (Nat → Int32)} {Q : Int32 → St → Prop} {x1 : Int32} {σ : St} (h : Ap (sp_151 x1 σ) Q) : Ex sc CC 1 cd_151 Q 0 [some (.ref 12), some (.int x1)] [] σ := by
  exact ve_151 monCC x1 σ (cc_140 (n_bn h (fun r7 σ7 h => n_ne h (fun h => cc_125 (n_bn h (fun r9 σ9 h => n_rt h))) (fun h => cc_152 (n_bn h (fun r8 σ8 h => n_if h (fun h => n_rt h) (fun h => n_rt h)))))))
-- TradeTestsModel.unlikeOf
set_option maxHeartbeats 20000000 in
set_option maxRecDepth 100000 in
theorem ve_154 {sc : Nat × (Nat → Int32)} {C : CT} (hC : MonC C) {Q : Int32 → St → Prop} (x1 : Int32) (σ : St) (v : vp_in x1 80 ∧ (C 152 [.ref 12, .int x1] σ (fun r3 σ3 => (¬ (σ 70 (x1).toNatClampNeg) = r3 → vp_in x1 80 ∧ (((σ3 70 (x1).toNatClampNeg) = 0 → Q 2 σ3) ∧ (¬ (σ3 70 (x1).toNatClampNeg) = 0 → Q 1 σ3))) ∧ ((σ 70 (x1).toNatClampNeg) = r3 → Q 0 σ3)))) : Ex sc C 1 cd_154 Q 0 [some (.ref 12), some (.int x1)] [] σ := wpn_Ex (cuts := []) hC (fun _ _ _ _ z => z) 17 0 _ _ _ v
set_option maxHeartbeats 20000000 in
set_option maxRecDepth 100000 in
theorem hp_154 {sc : Nat × (Nat → Int32)} {Q : Int32 → St → Prop} {x1 : Int32} {σ : St} (h : Ap (sp_154 x1 σ) Q) : Ex sc CC 1 cd_154 Q 0 [some (.ref 12), some (.int x1)] [] σ := by
  exact ve_154 monCC x1 σ (n_mb h (fun h => cc_152 (n_bn h (fun r3 σ3 h => n_ne h (fun h => n_rt h) (fun h => n_mb h (fun h => n_if h (fun h => n_rt h) (fun h => n_rt h)))))))
