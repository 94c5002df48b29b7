/-! the code does what the functions say (written by wip/whole/gen/spec.py) -/
-- TradeTests$Odometer.fall
set_option maxHeartbeats 20000000 in
set_option maxRecDepth 100000 in
theorem ve_76 {sc : Nat × (Nat → Int32)} {C : CT} (hC : MonC C) {Q : Int32 → St → Prop} (x1 : Int32) (σ : St) (v : vp_in x1 80 ∧ (C 77 [.ref 8, .int x1] σ (fun r7 σ7 => ((σ 29 (x1).toNatClampNeg) < r7 → C 78 [.ref 8, .int x1] σ7 (fun r8 σ8 => C 79 [.int (σ 29 (x1).toNatClampNeg), .int r7, .int r8] σ8 (fun r9 σ9 => (r9 = 0 → Q 2 σ9) ∧ (¬ r9 = 0 → Q 1 σ9)))) ∧ (¬ (σ 29 (x1).toNatClampNeg) < r7 → Q 0 σ7)))) : Ex sc C 1 cd_76 Q 0 [some (.ref 8), some (.int x1), none, none] [] σ := wpn_Ex (cuts := []) hC (fun _ _ _ _ z => z) 24 0 _ _ _ v
set_option maxHeartbeats 20000000 in
set_option maxRecDepth 100000 in
theorem hp_76 {sc : Nat × (Nat → Int32)} {Q : Int32 → St → Prop} {x1 : Int32} {σ : St} (h : Ap (sp_76 x1 σ) Q) : Ex sc CC 1 cd_76 Q 0 [some (.ref 8), some (.int x1), none, none] [] σ := by
  exact ve_76 monCC x1 σ (n_mb h (fun h => cc_77 (n_bn h (fun r7 σ7 h => n_if h (fun h => cc_78 (n_bn h (fun r8 σ8 h => cc_79 (n_bn h (fun r9 σ9 h => n_if h (fun h => n_rt h) (fun h => n_rt h)))))) (fun h => n_rt h)))))
-- TradeTests$Penalties.isRule
set_option maxHeartbeats 20000000 in
set_option maxRecDepth 100000 in
theorem ve_81 {sc : Nat × (Nat → Int32)} {C : CT} (hC : MonC C) {Q : Int32 → St → Prop} (x1 x2 : Int32) (σ : St) (v : C 1 [.int x1, .int 3] σ (fun r3 σ3 => (r3 = 0 → ((0 : Int32) = 0 ∨ (0 : Int32) = 1) ∧ Q 0 σ3) ∧ (¬ r3 = 0 → (x2 < 1 → ((0 : Int32) = 0 ∨ (0 : Int32) = 1) ∧ Q 0 σ3) ∧ (¬ x2 < 1 → vp_in x1 3 ∧ ((((sV 2).getD (x1).toNatClampNeg 0) < x2 → ((0 : Int32) = 0 ∨ (0 : Int32) = 1) ∧ Q 0 σ3) ∧ (¬ ((sV 2).getD (x1).toNatClampNeg 0) < x2 → ((1 : Int32) = 0 ∨ (1 : Int32) = 1) ∧ Q 1 σ3)))))) : Ex sc C 2 cd_81 Q 0 [some (.ref 10), some (.int x1), some (.int x2)] [] σ := wpn_Ex (cuts := []) hC (fun _ _ _ _ z => z) 16 0 _ _ _ v
set_option maxHeartbeats 20000000 in
set_option maxRecDepth 100000 in
theorem hp_81 {sc : Nat × (Nat → Int32)} {Q : Int32 → St → Prop} {x1 x2 : Int32} {σ : St} (h : Ap (sp_81 x1 x2 σ) Q) : Ex sc CC 2 cd_81 Q 0 [some (.ref 10), some (.int x1), some (.int x2)] [] σ := by
  exact ve_81 monCC x1 x2 σ (cc_1 (n_bn h (fun r3 σ3 h => n_if h (fun h => n_rb h) (fun h => n_if h (fun h => n_rb h) (fun h => n_mb h (fun h => n_if h (fun h => n_rb h) (fun h => n_rb h)))))))
-- TradeTests.appeal
set_option maxHeartbeats 20000000 in
set_option maxRecDepth 100000 in
theorem ve_83 {sc : Nat × (Nat → Int32)} {C : CT} (hC : MonC C) {Q : Int32 → St → Prop} (x1 x2 : Int32) (σ : St) (v : C 1 [.int x1, .int (σ 3 14)] σ (fun r9 σ9 => (r9 = 0 → C 2 [.ref 0, .int 1] σ9 (fun r10 σ10 => Q r10 σ10)) ∧ (¬ r9 = 0 → C 1 [.int x2, .int 2] σ9 (fun r11 σ11 => (¬ r11 = 0 → vp_in x1 80 ∧ (vp_in x1 80 ∧ (Q (σ11 34 (x1).toNatClampNeg) (up σ11 34 (x1).toNatClampNeg x2)))) ∧ (r11 = 0 → C 2 [.ref 0, .int 1] σ11 (fun r12 σ12 => Q r12 σ12)))))) : Ex sc C 1 cd_83 Q 0 [some (.ref 0), some (.int x1), some (.int x2), none] [] σ := wpn_Ex (cuts := []) hC (fun _ _ _ _ z => z) 25 0 _ _ _ v
set_option maxHeartbeats 20000000 in
set_option maxRecDepth 100000 in
theorem hp_83 {sc : Nat × (Nat → Int32)} {Q : Int32 → St → Prop} {x1 x2 : Int32} {σ : St} (h : Ap (sp_83 x1 x2 σ) Q) : Ex sc CC 1 cd_83 Q 0 [some (.ref 0), some (.int x1), some (.int x2), none] [] σ := by
  exact ve_83 monCC x1 x2 σ (cc_1 (n_bn h (fun r9 σ9 h => n_if h (fun h => cc_2 (n_bn h (fun r10 σ10 h => n_rt h))) (fun h => cc_1 (n_bn h (fun r11 σ11 h => n_ne h (fun h => cc_2 (n_bn h (fun r12 σ12 h => n_rt h))) (fun h => n_mb h (fun h => n_mb h (fun h => n_rt h)))))))))
-- TradeTests.secret
set_option maxHeartbeats 20000000 in
set_option maxRecDepth 100000 in
theorem ve_93 {sc : Nat × (Nat → Int32)} {C : CT} (hC : MonC C) {Q : Int32 → St → Prop} (x1 : Int32) (σ : St) (v : (x1 < 1 → C 2 [.ref 0, .int 1] σ (fun r9 σ9 => Q r9 σ9)) ∧ (¬ x1 < 1 → (x1 < 256 → ((σ 9 3) < 6 → C 94 [.ref 9, .int x1] σ (fun r10 σ10 => Q r10 σ10)) ∧ (¬ (σ 9 3) < 6 → C 2 [.ref 0, .int 4] σ (fun r11 σ11 => Q r11 σ11))) ∧ (¬ x1 < 256 → C 2 [.ref 0, .int 1] σ (fun r12 σ12 => Q r12 σ12)))) : Ex sc C 1 cd_93 Q 0 [some (.ref 0), some (.int x1)] [] σ := wpn_Ex (cuts := []) hC (fun _ _ _ _ z => z) 17 0 _ _ _ v
set_option maxHeartbeats 20000000 in
set_option maxRecDepth 100000 in
theorem hp_93 {sc : Nat × (Nat → Int32)} {Q : Int32 → St → Prop} {x1 : Int32} {σ : St} (h : Ap (sp_93 x1 σ) Q) : Ex sc CC 1 cd_93 Q 0 [some (.ref 0), some (.int x1)] [] σ := by
  exact ve_93 monCC x1 σ (n_if h (fun h => cc_2 (n_bn h (fun r9 σ9 h => n_rt h))) (fun h => n_if h (fun h => n_if h (fun h => cc_94 (n_bn h (fun r10 σ10 h => n_rt h))) (fun h => cc_2 (n_bn h (fun r11 σ11 h => n_rt h)))) (fun h => cc_2 (n_bn h (fun r12 σ12 h => n_rt h)))))
-- TradeTests$Plan.newFaults
set_option maxHeartbeats 20000000 in
set_option maxRecDepth 100000 in
theorem ve_99 {sc : Nat × (Nat → Int32)} {C : CT} (hC : MonC C) {Q : Int32 → St → Prop} (x1 : Int32) (σ : St) (v : vp_in x1 6 ∧ (C 59 [.int ((σ 45 (x1).toNatClampNeg) &&& ((σ 11 7) ^^^ (-1)))] σ (fun r3 σ3 => Q r3 σ3))) : Ex sc C 1 cd_99 Q 0 [some (.ref 11), some (.int x1)] [] σ := wpn_Ex (cuts := []) hC (fun _ _ _ _ z => z) 13 0 _ _ _ v
set_option maxHeartbeats 20000000 in
set_option maxRecDepth 100000 in
theorem hp_99 {sc : Nat × (Nat → Int32)} {Q : Int32 → St → Prop} {x1 : Int32} {σ : St} (h : Ap (sp_99 x1 σ) Q) : Ex sc CC 1 cd_99 Q 0 [some (.ref 11), some (.int x1)] [] σ := by
  exact ve_99 monCC x1 σ (n_mb h (fun h => cc_59 (n_bn h (fun r3 σ3 h => n_rt h))))
-- TradeTests$Plan.mostFrom
set_option maxHeartbeats 20000000 in
set_option maxRecDepth 100000 in
set_option maxHeartbeats 20000000 in
set_option maxRecDepth 100000 in
theorem vh_103_17 {sc : Nat × (Nat → Int32)} {C : CT} (hC : MonC C) {Q : Int32 → St → Prop} (v1 : Int32) (v2 : Int32) (v3 : Int32) (v4 : Int32) (σ : St) (v : ((σ 2 2) ≤ v4 → Q v3 σ) ∧ (¬ (σ 2 2) ≤ v4 → C 104 [.int v2, .int v4] σ (fun r5 σ5 => (r5 = 0 → Ex sc C 1 cd_103 Q 17 [some (.ref 11), some (.int v1), some (.int v2), some (.int v3), some (.int (v4 + 1))] [] σ5) ∧ (¬ r5 = 0 → C 105 [.ref 11, .int v1, .int v4, .int v2] σ5 (fun r6 σ6 => Ex sc C 1 cd_103 Q 17 [some (.ref 11), some (.int v1), some (.int v2), some (.int (maxI v3 r6)), some (.int (v4 + 1))] [] σ6))))) : Ex sc C 1 cd_103 Q 17 [some (.ref 11), some (.int v1), some (.int v2), some (.int v3), some (.int v4)] [] σ := stw_Ex (cuts := [17]) hC 20 v
theorem hl_103_17 {sc : Nat × (Nat → Int32)} {Q : Int32 → St → Prop} : ∀ (n : Nat) (v1 : Int32) (v2 : Int32) (v3 : Int32) (v4 : Int32) (σ : St), Ap (lp_103_17 n v1 v2 v3 v4 σ) Q → Ex sc CC 1 cd_103 Q 17 [some (.ref 11), some (.int v1), some (.int v2), some (.int v3), some (.int v4)] [] σ := by
  intro n
  induction n with
  | zero => intro v1 v2 v3 v4 σ h; exact n_no h
  | succ n ih =>
    intro v1 v2 v3 v4 σ h
    exact vh_103_17 monCC v1 v2 v3 v4 σ (n_if h (fun h => n_rt h) (fun h => cc_104 (n_bn h (fun r5 σ5 h => n_if h (fun h => ih v1 v2 v3 (v4 + 1) σ5 h) (fun h => cc_105 (n_bn h (fun r6 σ6 h => ih v1 v2 (maxI v3 r6) (v4 + 1) σ6 h)))))))
set_option maxHeartbeats 20000000 in
set_option maxRecDepth 100000 in
theorem ve_103 {sc : Nat × (Nat → Int32)} {C : CT} (hC : MonC C) {Q : Int32 → St → Prop} (x1 x2 : Int32) (σ : St) (v : vp_in (((x1 + 1) * 64) + x2) 448 ∧ (Ex sc C 1 cd_103 Q 17 [some (.ref 11), some (.int x1), some (.int x2), some (.int (σ 49 (((x1 + 1) * 64) + x2).toNatClampNeg)), some (.int 0)] [] σ)) : Ex sc C 1 cd_103 Q 0 [some (.ref 11), some (.int x1), some (.int x2), none, none] [] σ := wpn_Ex (cuts := [17]) hC (fun _ _ _ _ z => z) 15 0 _ _ _ v
set_option maxHeartbeats 20000000 in
set_option maxRecDepth 100000 in
theorem hp_103 {sc : Nat × (Nat → Int32)} {Q : Int32 → St → Prop} {x1 x2 : Int32} {σ : St} (h : Ap (sp_103 x1 x2 σ) Q) : Ex sc CC 1 cd_103 Q 0 [some (.ref 11), some (.int x1), some (.int x2), none, none] [] σ := by
  exact ve_103 monCC x1 x2 σ (n_mb h (fun h => hl_103_17 FU x1 x2 (σ 49 (((x1 + 1) * 64) + x2).toNatClampNeg) 0 σ h))
-- TradeTests$Plan.leastGarage
set_option maxHeartbeats 20000000 in
set_option maxRecDepth 100000 in
set_option maxHeartbeats 20000000 in
set_option maxRecDepth 100000 in
theorem vh_109_2 {sc : Nat × (Nat → Int32)} {C : CT} (hC : MonC C) {Q : Int32 → St → Prop} (v1 : Int32) (v2 : Int32) (v3 : Int32) (σ : St) (v : ((σ 2 2) ≤ v3 → Q (-1) σ) ∧ (¬ (σ 2 2) ≤ v3 → C 104 [.int v2, .int v3] σ (fun r5 σ5 => (r5 = 0 → Ex sc C 1 cd_109 Q 2 [some (.ref 11), some (.int v1), some (.int v2), some (.int (v3 + 1))] [] σ5) ∧ (¬ r5 = 0 → C 105 [.ref 11, .int v1, .int v3, .int v2] σ5 (fun r6 σ6 => vp_in ((v1 * 64) + v2) 448 ∧ ((¬ r6 = (σ6 49 ((v1 * 64) + v2).toNatClampNeg) → Ex sc C 1 cd_109 Q 2 [some (.ref 11), some (.int v1), some (.int v2), some (.int (v3 + 1))] [] σ6) ∧ (r6 = (σ6 49 ((v1 * 64) + v2).toNatClampNeg) → Q v3 σ6))))))) : Ex sc C 1 cd_109 Q 2 [some (.ref 11), some (.int v1), some (.int v2), some (.int v3)] [] σ := stw_Ex (cuts := [2]) hC 26 v
theorem hl_109_2 {sc : Nat × (Nat → Int32)} {Q : Int32 → St → Prop} : ∀ (n : Nat) (v1 : Int32) (v2 : Int32) (v3 : Int32) (σ : St), Ap (lp_109_2 n v1 v2 v3 σ) Q → Ex sc CC 1 cd_109 Q 2 [some (.ref 11), some (.int v1), some (.int v2), some (.int v3)] [] σ := by
  intro n
  induction n with
  | zero => intro v1 v2 v3 σ h; exact n_no h
  | succ n ih =>
    intro v1 v2 v3 σ h
    exact vh_109_2 monCC v1 v2 v3 σ (n_if h (fun h => n_rt h) (fun h => cc_104 (n_bn h (fun r5 σ5 h => n_if h (fun h => ih v1 v2 (v3 + 1) σ5 h) (fun h => cc_105 (n_bn h (fun r6 σ6 h => n_mb h (fun h => n_ne h (fun h => n_rt h) (fun h => ih v1 v2 (v3 + 1) σ6 h)))))))))
set_option maxHeartbeats 20000000 in
set_option maxRecDepth 100000 in
theorem ve_109 {sc : Nat × (Nat → Int32)} {C : CT} (hC : MonC C) {Q : Int32 → St → Prop} (x1 x2 : Int32) (σ : St) (v : Ex sc C 1 cd_109 Q 2 [some (.ref 11), some (.int x1), some (.int x2), some (.int 0)] [] σ) : Ex sc C 1 cd_109 Q 0 [some (.ref 11), some (.int x1), some (.int x2), none] [] σ := wpn_Ex (cuts := [2]) hC (fun _ _ _ _ z => z) 4 0 _ _ _ v
set_option maxHeartbeats 20000000 in
set_option maxRecDepth 100000 in
theorem hp_109 {sc : Nat × (Nat → Int32)} {Q : Int32 → St → Prop} {x1 x2 : Int32} {σ : St} (h : Ap (sp_109 x1 x2 σ) Q) : Ex sc CC 1 cd_109 Q 0 [some (.ref 11), some (.int x1), some (.int x2), none] [] σ := by
  exact ve_109 monCC x1 x2 σ (hl_109_2 FU x1 x2 0 σ h)
-- TradeTests.draw
set_option maxHeartbeats 20000000 in
set_option maxRecDepth 100000 in
theorem ve_110 {sc : Nat × (Nat → Int32)} {C : CT} (hC : MonC C) {Q : Int32 → St → Prop} (x1 x2 x3 : Int32) (σ : St) (v : C 1 [.int x1, .int (σ 3 14)] σ (fun r19 σ19 => (r19 = 0 → C 2 [.ref 0, .int 1] σ19 (fun r20 σ20 => Q r20 σ20)) ∧ (¬ r19 = 0 → (x2 < 1 → C 2 [.ref 0, .int 1] σ19 (fun r21 σ21 => Q r21 σ21)) ∧ (¬ x2 < 1 → (100 < x2 → C 2 [.ref 0, .int 1] σ19 (fun r22 σ22 => Q r22 σ22)) ∧ (¬ 100 < x2 → C 1 [.int x3, .int 2] σ19 (fun r23 σ23 => (¬ r23 = 0 → C 111 [.ref 3, .int x1] σ23 (fun r24 σ24 => (r24 = 0 → C 112 [.ref 3, .int x1, .int x2, .int x3] σ24 (fun r25 σ25 => Q r25 σ25)) ∧ (¬ r24 = 0 → C 2 [.ref 0, .int 3] σ24 (fun r26 σ26 => Q r26 σ26)))) ∧ (r23 = 0 → C 2 [.ref 0, .int 1] σ23 (fun r27 σ27 => Q r27 σ27)))))))) : Ex sc C 1 cd_110 Q 0 [some (.ref 0), some (.int x1), some (.int x2), some (.int x3)] [] σ := wpn_Ex (cuts := []) hC (fun _ _ _ _ z => z) 29 0 _ _ _ v
set_option maxHeartbeats 20000000 in
set_option maxRecDepth 100000 in
theorem hp_110 {sc : Nat × (Nat → Int32)} {Q : Int32 → St → Prop} {x1 x2 x3 : Int32} {σ : St} (h : Ap (sp_110 x1 x2 x3 σ) Q) : Ex sc CC 1 cd_110 Q 0 [some (.ref 0), some (.int x1), some (.int x2), some (.int x3)] [] σ := by
  exact ve_110 monCC x1 x2 x3 σ (cc_1 (n_bn h (fun r19 σ19 h => n_if h (fun h => cc_2 (n_bn h (fun r20 σ20 h => n_rt h))) (fun h => n_if h (fun h => cc_2 (n_bn h (fun r21 σ21 h => n_rt h))) (fun h => n_if h (fun h => cc_2 (n_bn h (fun r22 σ22 h => n_rt h))) (fun h => cc_1 (n_bn h (fun r23 σ23 h => n_ne h (fun h => cc_2 (n_bn h (fun r27 σ27 h => n_rt h))) (fun h => cc_111 (n_bn h (fun r24 σ24 h => n_if h (fun h => cc_112 (n_bn h (fun r25 σ25 h => n_rt h))) (fun h => cc_2 (n_bn h (fun r26 σ26 h => n_rt h))))))))))))))
-- TradeTests.error
set_option maxHeartbeats 20000000 in
set_option maxRecDepth 100000 in
theorem ve_113 {sc : Nat × (Nat → Int32)} {C : CT} (hC : MonC C) {Q : Int32 → St → Prop}  (σ : St) (v : C 114 [.ref 3] σ (fun r5 σ5 => (0 ≤ r5 → Q r5 σ5) ∧ (¬ 0 ≤ r5 → C 2 [.ref 0, .int 2] σ5 (fun r6 σ6 => Q r6 σ6)))) : Ex sc C 1 cd_113 Q 0 [some (.ref 0), none] [] σ := wpn_Ex (cuts := []) hC (fun _ _ _ _ z => z) 12 0 _ _ _ v
set_option maxHeartbeats 20000000 in
set_option maxRecDepth 100000 in
theorem hp_113 {sc : Nat × (Nat → Int32)} {Q : Int32 → St → Prop}  {σ : St} (h : Ap (sp_113  σ) Q) : Ex sc CC 1 cd_113 Q 0 [some (.ref 0), none] [] σ := by
  exact ve_113 monCC  σ (cc_114 (n_bn h (fun r5 σ5 h => n_if h (fun h => n_rt h) (fun h => cc_2 (n_bn h (fun r6 σ6 h => n_rt h))))))
-- TradeTests.tell
set_option maxHeartbeats 20000000 in
set_option maxRecDepth 100000 in
theorem ve_117 {sc : Nat × (Nat → Int32)} {C : CT} (hC : MonC C) {Q : Int32 → St → Prop} (x1 : Int32) (σ : St) (v : ((σ 0 12) < 8 → vp_in (σ 0 12) 8 ∧ (Q ((σ 0 12) + 1) (up (up σ 13 (σ 0 12).toNatClampNeg x1) 0 12 ((σ 0 12) + 1)))) ∧ (¬ (σ 0 12) < 8 → C 2 [.ref 0, .int 4] σ (fun r3 σ3 => Q r3 σ3))) : Ex sc C 1 cd_117 Q 0 [some (.ref 0), some (.int x1)] [] σ := wpn_Ex (cuts := []) hC (fun _ _ _ _ z => z) 20 0 _ _ _ v
set_option maxHeartbeats 20000000 in
set_option maxRecDepth 100000 in
theorem hp_117 {sc : Nat × (Nat → Int32)} {Q : Int32 → St → Prop} {x1 : Int32} {σ : St} (h : Ap (sp_117 x1 σ) Q) : Ex sc CC 1 cd_117 Q 0 [some (.ref 0), some (.int x1)] [] σ := by
  exact ve_117 monCC x1 σ (n_if h (fun h => n_mb h (fun h => n_rt h)) (fun h => cc_2 (n_bn h (fun r3 σ3 h => n_rt h))))
