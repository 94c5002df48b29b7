/-! the code does what the functions say (written by wip/whole/gen/spec.py) -/
-- TradeTestsModel.appeal
set_option maxHeartbeats 20000000 in
set_option maxRecDepth 100000 in
theorem ve_173 {sc : Nat × (Nat → Int32)} {C : CT} (hC : MonC C) {Q : Int32 → St → Prop} (x1 x2 : Int32) (σ : St) (v : C 140 [.ref 12, .int x1] σ (fun r9 σ9 => (r9 = 0 → C 125 [.ref 12, .int 1] σ9 (fun r10 σ10 => Q r10 σ10)) ∧ (¬ r9 = 0 → C 123 [.int x2, .int 0, .int 1] σ9 (fun r11 σ11 => (¬ r11 = 0 → vp_in x1 80 ∧ (((σ11 71 (x1).toNatClampNeg) = 0 → (¬ x2 = 1 → vp_in x1 80 ∧ (((0 : Int32) = 0 ∨ (0 : Int32) = 1) ∧ (Q 0 (up σ11 71 (x1).toNatClampNeg 0)))) ∧ (x2 = 1 → vp_in x1 80 ∧ (((1 : Int32) = 0 ∨ (1 : Int32) = 1) ∧ (Q 0 (up σ11 71 (x1).toNatClampNeg 1))))) ∧ (¬ (σ11 71 (x1).toNatClampNeg) = 0 → (¬ x2 = 1 → vp_in x1 80 ∧ (((0 : Int32) = 0 ∨ (0 : Int32) = 1) ∧ (Q 1 (up σ11 71 (x1).toNatClampNeg 0)))) ∧ (x2 = 1 → vp_in x1 80 ∧ (((1 : Int32) = 0 ∨ (1 : Int32) = 1) ∧ (Q 1 (up σ11 71 (x1).toNatClampNeg 1))))))) ∧ (r11 = 0 → C 125 [.ref 12, .int 1] σ11 (fun r12 σ12 => Q r12 σ12)))))) : Ex sc C 1 cd_173 Q 0 [some (.ref 12), some (.int x1), some (.int x2), none] [] σ := wpn_Ex (cuts := []) hC (fun _ _ _ _ z => z) 29 0 _ _ _ v
set_option maxHeartbeats 20000000 in
set_option maxRecDepth 100000 in
theorem hp_173 {sc : Nat × (Nat → Int32)} {Q : Int32 → St → Prop} {x1 x2 : Int32} {σ : St} (h : Ap (sp_173 x1 x2 σ) Q) : Ex sc CC 1 cd_173 Q 0 [some (.ref 12), some (.int x1), some (.int x2), none] [] σ := by
  exact ve_173 monCC x1 x2 σ (cc_140 (n_bn h (fun r9 σ9 h => n_if h (fun h => cc_125 (n_bn h (fun r10 σ10 h => n_rt h))) (fun h => cc_123 (n_bn h (fun r11 σ11 h => n_ne h (fun h => cc_125 (n_bn h (fun r12 σ12 h => n_rt h))) (fun h => n_mb h (fun h => n_if h (fun h => n_ne h (fun h => n_mb h (fun h => n_mb h (fun h => n_rt h))) (fun h => n_mb h (fun h => n_mb h (fun h => n_rt h)))) (fun h => n_ne h (fun h => n_mb h (fun h => n_mb h (fun h => n_rt h))) (fun h => n_mb h (fun h => n_mb h (fun h => n_rt h))))))))))))
-- TradeTestsModel.visit
set_option maxHeartbeats 20000000 in
set_option maxRecDepth 100000 in
theorem ve_182 {sc : Nat × (Nat → Int32)} {C : CT} (hC : MonC C) {Q : Int32 → St → Prop} (x1 x2 : Int32) (σ : St) (v : C 123 [.int x1, .int 0, .int ((σ 12 6) - 1)] σ (fun r13 σ13 => (r13 = 0 → C 125 [.ref 12, .int 1] σ13 (fun r14 σ14 => Q r14 σ14)) ∧ (¬ r13 = 0 → C 140 [.ref 12, .int x2] σ13 (fun r15 σ15 => (¬ r15 = 0 → vp_in x2 80 ∧ (((σ15 68 (x2).toNatClampNeg) < 0 → vp_in x2 80 ∧ (C 176 [.ref 12, .int x2] (up (up σ15 68 (x2).toNatClampNeg x1) 12 7 ((σ15 12 7) + 1)) (fun r16 σ16 => Q r16 σ16))) ∧ (¬ (σ15 68 (x2).toNatClampNeg) < 0 → C 125 [.ref 12, .int 3] σ15 (fun r17 σ17 => Q r17 σ17)))) ∧ (r15 = 0 → C 125 [.ref 12, .int 1] σ15 (fun r18 σ18 => Q r18 σ18)))))) : Ex sc C 1 cd_182 Q 0 [some (.ref 12), some (.int x1), some (.int x2)] [] σ := wpn_Ex (cuts := []) hC (fun _ _ _ _ z => z) 33 0 _ _ _ v
set_option maxHeartbeats 20000000 in
set_option maxRecDepth 100000 in
theorem hp_182 {sc : Nat × (Nat → Int32)} {Q : Int32 → St → Prop} {x1 x2 : Int32} {σ : St} (h : Ap (sp_182 x1 x2 σ) Q) : Ex sc CC 1 cd_182 Q 0 [some (.ref 12), some (.int x1), some (.int x2)] [] σ := by
  exact ve_182 monCC x1 x2 σ (cc_123 (n_bn h (fun r13 σ13 h => n_if h (fun h => cc_125 (n_bn h (fun r14 σ14 h => n_rt h))) (fun h => cc_140 (n_bn h (fun r15 σ15 h => n_ne h (fun h => cc_125 (n_bn h (fun r18 σ18 h => n_rt h))) (fun h => n_mb h (fun h => n_if h (fun h => n_mb h (fun h => cc_176 (n_bn h (fun r16 σ16 h => n_rt h)))) (fun h => cc_125 (n_bn h (fun r17 σ17 h => n_rt h)))))))))))
-- TradeTestsModel.draw
set_option maxHeartbeats 20000000 in
set_option maxRecDepth 100000 in
theorem ve_187 {sc : Nat × (Nat → Int32)} {C : CT} (hC : MonC C) {Q : Int32 → St → Prop} (x1 x2 x3 : Int32) (σ : St) (v : C 140 [.ref 12, .int x1] σ (fun r15 σ15 => (r15 = 0 → C 125 [.ref 12, .int 1] σ15 (fun r16 σ16 => Q r16 σ16)) ∧ (¬ r15 = 0 → C 123 [.int x2, .int 1, .int 100] σ15 (fun r17 σ17 => (r17 = 0 → C 125 [.ref 12, .int 1] σ17 (fun r18 σ18 => Q r18 σ18)) ∧ (¬ r17 = 0 → C 123 [.int x3, .int 0, .int 1] σ17 (fun r19 σ19 => (¬ r19 = 0 → vp_in x1 80 ∧ (((σ19 69 (x1).toNatClampNeg) ≤ 0 → vp_in x1 80 ∧ ((¬ x3 = 1 → vp_in x1 80 ∧ (((0 : Int32) = 0 ∨ (0 : Int32) = 1) ∧ (Q ((σ19 12 8) + 1) (up (up (up σ19 69 (x1).toNatClampNeg x2) 72 (x1).toNatClampNeg 0) 12 8 ((σ19 12 8) + 1))))) ∧ (x3 = 1 → vp_in x1 80 ∧ (((1 : Int32) = 0 ∨ (1 : Int32) = 1) ∧ (Q ((σ19 12 8) + 1) (up (up (up σ19 69 (x1).toNatClampNeg x2) 72 (x1).toNatClampNeg 1) 12 8 ((σ19 12 8) + 1))))))) ∧ (¬ (σ19 69 (x1).toNatClampNeg) ≤ 0 → C 125 [.ref 12, .int 3] σ19 (fun r20 σ20 => Q r20 σ20)))) ∧ (r19 = 0 → C 125 [.ref 12, .int 1] σ19 (fun r21 σ21 => Q r21 σ21)))))))) : Ex sc C 1 cd_187 Q 0 [some (.ref 12), some (.int x1), some (.int x2), some (.int x3)] [] σ := wpn_Ex (cuts := []) hC (fun _ _ _ _ z => z) 43 0 _ _ _ v
set_option maxHeartbeats 20000000 in
set_option maxRecDepth 100000 in
theorem hp_187 {sc : Nat × (Nat → Int32)} {Q : Int32 → St → Prop} {x1 x2 x3 : Int32} {σ : St} (h : Ap (sp_187 x1 x2 x3 σ) Q) : Ex sc CC 1 cd_187 Q 0 [some (.ref 12), some (.int x1), some (.int x2), some (.int x3)] [] σ := by
  exact ve_187 monCC x1 x2 x3 σ (cc_140 (n_bn h (fun r15 σ15 h => n_if h (fun h => cc_125 (n_bn h (fun r16 σ16 h => n_rt h))) (fun h => cc_123 (n_bn h (fun r17 σ17 h => n_if h (fun h => cc_125 (n_bn h (fun r18 σ18 h => n_rt h))) (fun h => cc_123 (n_bn h (fun r19 σ19 h => n_ne h (fun h => cc_125 (n_bn h (fun r21 σ21 h => n_rt h))) (fun h => n_mb h (fun h => n_if h (fun h => n_mb h (fun h => n_ne h (fun h => n_mb h (fun h => n_mb h (fun h => n_rt h))) (fun h => n_mb h (fun h => n_mb h (fun h => n_rt h))))) (fun h => cc_125 (n_bn h (fun r20 σ20 h => n_rt h))))))))))))))
-- TradeTests$Texts.readRow
set_option maxHeartbeats 20000000 in
set_option maxRecDepth 100000 in
set_option maxHeartbeats 20000000 in
set_option maxRecDepth 100000 in
theorem vh_32_62 {sc : Nat × (Nat → Int32)} {C : CT} (hC : MonC C) {Q : Int32 → St → Prop} (v1 : Int32) (v2 : Int32) (σ : St) (v : (0 ≤ v2 → (¬ v1 = 98 → vp_in (σ 4 7) 6 ∧ (((1 : Int32) = 0 ∨ (1 : Int32) = 1) ∧ Q 1 (up σ 41 (σ 4 7).toNatClampNeg v2))) ∧ (v1 = 98 → vp_in (σ 4 7) 6 ∧ (((1 : Int32) = 0 ∨ (1 : Int32) = 1) ∧ Q 1 (up σ 40 (σ 4 7).toNatClampNeg v2)))) ∧ (¬ 0 ≤ v2 → ((0 : Int32) = 0 ∨ (0 : Int32) = 1) ∧ Q 0 σ)) : Ex sc C 2 cd_32 Q 62 [some (.ref 4), some (.int v1), some (.int v2)] [] σ := stw_Ex (cuts := [25, 62]) hC 14 v
theorem hl_32_62 {sc : Nat × (Nat → Int32)} {Q : Int32 → St → Prop} : ∀ (v1 : Int32) (v2 : Int32) (σ : St), Ap (lp_32_62 v1 v2 σ) Q → Ex sc CC 2 cd_32 Q 62 [some (.ref 4), some (.int v1), some (.int v2)] [] σ := by
  intro v1 v2 σ h
  exact vh_32_62 monCC v1 v2 σ (n_if h (fun h => n_ne h (fun h => n_mb h (fun h => n_rb h)) (fun h => n_mb h (fun h => n_rb h))) (fun h => n_rb h))
set_option maxHeartbeats 20000000 in
set_option maxRecDepth 100000 in
set_option maxHeartbeats 20000000 in
set_option maxRecDepth 100000 in
theorem vh_32_25 {sc : Nat × (Nat → Int32)} {C : CT} (hC : MonC C) {Q : Int32 → St → Prop} (v1 : Int32) (σ : St) (v : (¬ v1 = 102 → (¬ v1 = 98 → C 38 [.ref 4, .int 2] (up σ 4 2 ((σ 4 2) + 1)) (fun r9 σ9 => Ex sc C 2 cd_32 Q 62 [some (.ref 4), some (.int v1), some (.int r9)] [] σ9)) ∧ (v1 = 98 → C 38 [.ref 4, .int 3] (up σ 4 2 ((σ 4 2) + 1)) (fun r10 σ10 => Ex sc C 2 cd_32 Q 62 [some (.ref 4), some (.int v1), some (.int r10)] [] σ10))) ∧ (v1 = 102 → C 34 [.ref 4] (up σ 4 2 ((σ 4 2) + 1)) (fun r11 σ11 => (r11 = 0 ∨ r11 = 1) ∧ Q r11 σ11))) : Ex sc C 2 cd_32 Q 25 [some (.ref 4), some (.int v1), none] [] σ := stw_Ex (cuts := [25, 62]) hC 18 v
theorem hl_32_25 {sc : Nat × (Nat → Int32)} {Q : Int32 → St → Prop} : ∀ (v1 : Int32) (σ : St), Ap (lp_32_25 v1 σ) Q → Ex sc CC 2 cd_32 Q 25 [some (.ref 4), some (.int v1), none] [] σ := by
  intro v1 σ h
  exact vh_32_25 monCC v1 σ (n_ne h (fun h => cc_34 (n_bn h (fun r11 σ11 h => n_rb h))) (fun h => n_ne h (fun h => cc_38 (n_bn h (fun r10 σ10 h => hl_32_62 v1 r10 σ10 h))) (fun h => cc_38 (n_bn h (fun r9 σ9 h => hl_32_62 v1 r9 σ9 h)))))
set_option maxHeartbeats 20000000 in
set_option maxRecDepth 100000 in
theorem ve_32 {sc : Nat × (Nat → Int32)} {C : CT} (hC : MonC C) {Q : Int32 → St → Prop}  (σ : St) (v : C 33 [.ref 4] σ (fun r12 σ12 => (r12 = 98 → Ex sc C 2 cd_32 Q 25 [some (.ref 4), some (.int r12), none] [] σ12) ∧ (¬ r12 = 98 → (r12 = 100 → Ex sc C 2 cd_32 Q 25 [some (.ref 4), some (.int r12), none] [] σ12) ∧ (¬ r12 = 100 → (r12 = 102 → Ex sc C 2 cd_32 Q 25 [some (.ref 4), some (.int r12), none] [] σ12) ∧ (¬ r12 = 102 → ((0 : Int32) = 0 ∨ (0 : Int32) = 1) ∧ Q 0 σ12))))) : Ex sc C 2 cd_32 Q 0 [some (.ref 4), none, none] [] σ := wpn_Ex (cuts := [25, 62]) hC (fun _ _ _ _ z => z) 15 0 _ _ _ v
set_option maxHeartbeats 20000000 in
set_option maxRecDepth 100000 in
theorem hp_32 {sc : Nat × (Nat → Int32)} {Q : Int32 → St → Prop}  {σ : St} (h : Ap (sp_32  σ) Q) : Ex sc CC 2 cd_32 Q 0 [some (.ref 4), none, none] [] σ := by
  exact ve_32 monCC  σ (cc_33 (n_bn h (fun r12 σ12 h => n_if h (fun h => hl_32_25 r12 σ12 h) (fun h => n_if h (fun h => hl_32_25 r12 σ12 h) (fun h => n_if h (fun h => hl_32_25 r12 σ12 h) (fun h => n_rb h))))))
-- TradeTests.unlike
set_option maxHeartbeats 20000000 in
set_option maxRecDepth 100000 in
theorem ve_45 {sc : Nat × (Nat → Int32)} {C : CT} (hC : MonC C) {Q : Int32 → St → Prop} (x1 : Int32) (σ : St) (v : C 1 [.int x1, .int (σ 3 14)] σ (fun r7 σ7 => (¬ r7 = 0 → C 46 [.ref 5, .int x1] σ7 (fun r8 σ8 => Q r8 σ8)) ∧ (r7 = 0 → C 2 [.ref 0, .int 1] σ7 (fun r9 σ9 => Q r9 σ9)))) : Ex sc C 1 cd_45 Q 0 [some (.ref 0), some (.int x1)] [] σ := wpn_Ex (cuts := []) hC (fun _ _ _ _ z => z) 12 0 _ _ _ v
set_option maxHeartbeats 20000000 in
set_option maxRecDepth 100000 in
theorem hp_45 {sc : Nat × (Nat → Int32)} {Q : Int32 → St → Prop} {x1 : Int32} {σ : St} (h : Ap (sp_45 x1 σ) Q) : Ex sc CC 1 cd_45 Q 0 [some (.ref 0), some (.int x1)] [] σ := by
  exact ve_45 monCC x1 σ (cc_1 (n_bn h (fun r7 σ7 h => n_ne h (fun h => cc_2 (n_bn h (fun r9 σ9 h => n_rt h))) (fun h => cc_46 (n_bn h (fun r8 σ8 h => n_rt h))))))
