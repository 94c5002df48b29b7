/-! the code does what the functions say (written by wip/whole/gen/spec.py) -/
-- TradeTests.as
set_option maxHeartbeats 20000000 in
set_option maxRecDepth 100000 in
theorem ve_4 {sc : Nat × (Nat → Int32)} {C : CT} (hC : MonC C) {Q : Int32 → St → Prop} (x1 x2 : Int32) (σ : St) (v : C 1 [.int x1, .int (σ 1 3)] σ (fun r15 σ15 => (r15 = 0 → C 2 [.ref 0, .int 1] σ15 (fun r16 σ16 => Q r16 σ16)) ∧ (¬ r15 = 0 → C 1 [.int x2, .int 4] σ15 (fun r17 σ17 => (¬ r17 = 0 → vp_in x1 24 ∧ (C 5 [.int (σ17 15 (x1).toNatClampNeg), .int x2] σ17 (fun r18 σ18 => (¬ r18 = 0 → C 6 [.ref 1, .int x1] σ18 (fun r19 σ19 => Q r19 σ19)) ∧ (r18 = 0 → C 2 [.ref 0, .int 5] σ18 (fun r20 σ20 => Q r20 σ20))))) ∧ (r17 = 0 → C 2 [.ref 0, .int 1] σ17 (fun r21 σ21 => Q r21 σ21)))))) : Ex sc C 1 cd_4 Q 0 [some (.ref 0), some (.int x1), some (.int x2)] [] σ := wpn_Ex (cuts := []) hC (fun _ _ _ _ z => z) 24 0 _ _ _ v
set_option maxHeartbeats 20000000 in
set_option maxRecDepth 100000 in
theorem hp_4 {sc : Nat × (Nat → Int32)} {Q : Int32 → St → Prop} {x1 x2 : Int32} {σ : St} (h : Ap (sp_4 x1 x2 σ) Q) : Ex sc CC 1 cd_4 Q 0 [some (.ref 0), some (.int x1), some (.int x2)] [] σ := by
  exact ve_4 monCC x1 x2 σ (cc_1 (n_bn h (fun r15 σ15 h => n_if h (fun h => cc_2 (n_bn h (fun r16 σ16 h => n_rt h))) (fun h => cc_1 (n_bn h (fun r17 σ17 h => n_ne h (fun h => cc_2 (n_bn h (fun r21 σ21 h => n_rt h))) (fun h => n_mb h (fun h => cc_5 (n_bn h (fun r18 σ18 h => n_ne h (fun h => cc_2 (n_bn h (fun r20 σ20 h => n_rt h))) (fun h => cc_6 (n_bn h (fun r19 σ19 h => n_rt h)))))))))))))
-- TradeTests.garage
set_option maxHeartbeats 20000000 in
set_option maxRecDepth 100000 in
theorem ve_7 {sc : Nat × (Nat → Int32)} {C : CT} (hC : MonC C) {Q : Int32 → St → Prop} (x1 x2 : Int32) (σ : St) (v : C 1 [.int x1, .int 1440] σ (fun r13 σ13 => (r13 = 0 → C 2 [.ref 0, .int 1] σ13 (fun r14 σ14 => Q r14 σ14)) ∧ (¬ r13 = 0 → (x2 ≤ x1 → C 2 [.ref 0, .int 1] σ13 (fun r15 σ15 => Q r15 σ15)) ∧ (¬ x2 ≤ x1 → (x2 ≤ 1440 → ((σ13 2 2) < 6 → C 8 [.ref 2, .int x1, .int x2] σ13 (fun r16 σ16 => Q r16 σ16)) ∧ (¬ (σ13 2 2) < 6 → C 2 [.ref 0, .int 4] σ13 (fun r17 σ17 => Q r17 σ17))) ∧ (¬ x2 ≤ 1440 → C 2 [.ref 0, .int 1] σ13 (fun r18 σ18 => Q r18 σ18)))))) : Ex sc C 1 cd_7 Q 0 [some (.ref 0), some (.int x1), some (.int x2)] [] σ := wpn_Ex (cuts := []) hC (fun _ _ _ _ z => z) 22 0 _ _ _ v
set_option maxHeartbeats 20000000 in
set_option maxRecDepth 100000 in
theorem hp_7 {sc : Nat × (Nat → Int32)} {Q : Int32 → St → Prop} {x1 x2 : Int32} {σ : St} (h : Ap (sp_7 x1 x2 σ) Q) : Ex sc CC 1 cd_7 Q 0 [some (.ref 0), some (.int x1), some (.int x2)] [] σ := by
  exact ve_7 monCC x1 x2 σ (cc_1 (n_bn h (fun r13 σ13 h => n_if h (fun h => cc_2 (n_bn h (fun r14 σ14 h => n_rt h))) (fun h => n_if h (fun h => cc_2 (n_bn h (fun r15 σ15 h => n_rt h))) (fun h => n_if h (fun h => n_if h (fun h => cc_8 (n_bn h (fun r16 σ16 h => n_rt h))) (fun h => cc_2 (n_bn h (fun r17 σ17 h => n_rt h)))) (fun h => cc_2 (n_bn h (fun r18 σ18 h => n_rt h))))))))
-- TradeTests.tester
set_option maxHeartbeats 20000000 in
set_option maxRecDepth 100000 in
theorem ve_9 {sc : Nat × (Nat → Int32)} {C : CT} (hC : MonC C) {Q : Int32 → St → Prop} (x1 : Int32) (σ : St) (v : C 1 [.int x1, .int (σ 2 2)] σ (fun r9 σ9 => (¬ r9 = 0 → ((σ9 2 4) < 8 → C 10 [.ref 2, .int x1] σ9 (fun r10 σ10 => Q r10 σ10)) ∧ (¬ (σ9 2 4) < 8 → C 2 [.ref 0, .int 4] σ9 (fun r11 σ11 => Q r11 σ11))) ∧ (r9 = 0 → C 2 [.ref 0, .int 1] σ9 (fun r12 σ12 => Q r12 σ12)))) : Ex sc C 1 cd_9 Q 0 [some (.ref 0), some (.int x1)] [] σ := wpn_Ex (cuts := []) hC (fun _ _ _ _ z => z) 17 0 _ _ _ v
set_option maxHeartbeats 20000000 in
set_option maxRecDepth 100000 in
theorem hp_9 {sc : Nat × (Nat → Int32)} {Q : Int32 → St → Prop} {x1 : Int32} {σ : St} (h : Ap (sp_9 x1 σ) Q) : Ex sc CC 1 cd_9 Q 0 [some (.ref 0), some (.int x1)] [] σ := by
  exact ve_9 monCC x1 σ (cc_1 (n_bn h (fun r9 σ9 h => n_ne h (fun h => cc_2 (n_bn h (fun r12 σ12 h => n_rt h))) (fun h => n_if h (fun h => cc_10 (n_bn h (fun r10 σ10 h => n_rt h))) (fun h => cc_2 (n_bn h (fun r11 σ11 h => n_rt h)))))))
-- TradeTests.move
set_option maxHeartbeats 20000000 in
set_option maxRecDepth 100000 in
theorem ve_11 {sc : Nat × (Nat → Int32)} {C : CT} (hC : MonC C) {Q : Int32 → St → Prop} (x1 x2 x3 : Int32) (σ : St) (v : C 1 [.int x1, .int (σ 2 4)] σ (fun r23 σ23 => (r23 = 0 → C 2 [.ref 0, .int 1] σ23 (fun r24 σ24 => Q r24 σ24)) ∧ (¬ r23 = 0 → C 1 [.int x2, .int (σ23 2 2)] σ23 (fun r25 σ25 => (r25 = 0 → C 2 [.ref 0, .int 1] σ25 (fun r26 σ26 => Q r26 σ26)) ∧ (¬ r25 = 0 → C 1 [.int x3, .int 10000] σ25 (fun r27 σ27 => (¬ r27 = 0 → C 12 [.ref 2, .int x1] σ27 (fun r28 σ28 => (r28 ≤ x3 → ((σ28 2 8) < 30 → C 13 [.ref 2, .int x1, .int x2, .int x3] σ28 (fun r29 σ29 => C 14 [.ref 2, .int x1, .int (x3 - 1)] σ29 (fun r30 σ30 => Q r30 σ30))) ∧ (¬ (σ28 2 8) < 30 → C 2 [.ref 0, .int 4] σ28 (fun r31 σ31 => Q r31 σ31))) ∧ (¬ r28 ≤ x3 → C 2 [.ref 0, .int 1] σ28 (fun r32 σ32 => Q r32 σ32)))) ∧ (r27 = 0 → C 2 [.ref 0, .int 1] σ27 (fun r33 σ33 => Q r33 σ33)))))))) : Ex sc C 1 cd_11 Q 0 [some (.ref 0), some (.int x1), some (.int x2), some (.int x3)] [] σ := wpn_Ex (cuts := []) hC (fun _ _ _ _ z => z) 42 0 _ _ _ v
set_option maxHeartbeats 20000000 in
set_option maxRecDepth 100000 in
theorem hp_11 {sc : Nat × (Nat → Int32)} {Q : Int32 → St → Prop} {x1 x2 x3 : Int32} {σ : St} (h : Ap (sp_11 x1 x2 x3 σ) Q) : Ex sc CC 1 cd_11 Q 0 [some (.ref 0), some (.int x1), some (.int x2), some (.int x3)] [] σ := by
  exact ve_11 monCC x1 x2 x3 σ (cc_1 (n_bn h (fun r23 σ23 h => n_if h (fun h => cc_2 (n_bn h (fun r24 σ24 h => n_rt h))) (fun h => cc_1 (n_bn h (fun r25 σ25 h => n_if h (fun h => cc_2 (n_bn h (fun r26 σ26 h => n_rt h))) (fun h => cc_1 (n_bn h (fun r27 σ27 h => n_ne h (fun h => cc_2 (n_bn h (fun r33 σ33 h => n_rt h))) (fun h => cc_12 (n_bn h (fun r28 σ28 h => n_if h (fun h => n_if h (fun h => cc_13 (n_bn h (fun r29 σ29 h => cc_14 (n_bn h (fun r30 σ30 h => n_rt h))))) (fun h => cc_2 (n_bn h (fun r31 σ31 h => n_rt h)))) (fun h => cc_2 (n_bn h (fun r32 σ32 h => n_rt h)))))))))))))))
-- TradeTests.at
set_option maxHeartbeats 20000000 in
set_option maxRecDepth 100000 in
theorem ve_15 {sc : Nat × (Nat → Int32)} {C : CT} (hC : MonC C) {Q : Int32 → St → Prop} (x1 x2 : Int32) (σ : St) (v : C 1 [.int x1, .int (σ 2 4)] σ (fun r11 σ11 => (r11 = 0 → C 2 [.ref 0, .int 1] σ11 (fun r12 σ12 => Q r12 σ12)) ∧ (¬ r11 = 0 → C 1 [.int x2, .int 10000] σ11 (fun r13 σ13 => (¬ r13 = 0 → C 14 [.ref 2, .int x1, .int x2] σ13 (fun r14 σ14 => Q r14 σ14)) ∧ (r13 = 0 → C 2 [.ref 0, .int 1] σ13 (fun r15 σ15 => Q r15 σ15)))))) : Ex sc C 1 cd_15 Q 0 [some (.ref 0), some (.int x1), some (.int x2)] [] σ := wpn_Ex (cuts := []) hC (fun _ _ _ _ z => z) 17 0 _ _ _ v
set_option maxHeartbeats 20000000 in
set_option maxRecDepth 100000 in
theorem hp_15 {sc : Nat × (Nat → Int32)} {Q : Int32 → St → Prop} {x1 x2 : Int32} {σ : St} (h : Ap (sp_15 x1 x2 σ) Q) : Ex sc CC 1 cd_15 Q 0 [some (.ref 0), some (.int x1), some (.int x2)] [] σ := by
  exact ve_15 monCC x1 x2 σ (cc_1 (n_bn h (fun r11 σ11 h => n_if h (fun h => cc_2 (n_bn h (fun r12 σ12 h => n_rt h))) (fun h => cc_1 (n_bn h (fun r13 σ13 h => n_ne h (fun h => cc_2 (n_bn h (fun r15 σ15 h => n_rt h))) (fun h => cc_14 (n_bn h (fun r14 σ14 h => n_rt h)))))))))
-- TradeTests.isWhen
set_option maxHeartbeats 20000000 in
set_option maxRecDepth 100000 in
theorem ve_18 {sc : Nat × (Nat → Int32)} {C : CT} (hC : MonC C) {Q : Int32 → St → Prop} (x1 x2 : Int32) (σ : St) (v : (x2 < 0 → ((0 : Int32) = 0 ∨ (0 : Int32) = 1) ∧ Q 0 σ) ∧ (¬ x2 < 0 → ¬ (10000 : Int32) = 0 ∧ (((x2 / 10000) < 1440 → ¬ (10000 : Int32) = 0 ∧ (C 19 [.ref 3] σ (fun r3 σ3 => ((x2 - x2 / 10000 * 10000) < r3 → ((0 : Int32) = 0 ∨ (0 : Int32) = 1) ∧ Q 0 σ3) ∧ (¬ (x2 - x2 / 10000 * 10000) < r3 → ¬ (100 : Int32) = 0 ∧ (vp_in (x1 / 100) 24 ∧ (((x2 - x2 / 10000 * 10000) < (σ3 17 (x1 / 100).toNatClampNeg) → ((0 : Int32) = 0 ∨ (0 : Int32) = 1) ∧ Q 0 σ3) ∧ (¬ (x2 - x2 / 10000 * 10000) < (σ3 17 (x1 / 100).toNatClampNeg) → ((1 : Int32) = 0 ∨ (1 : Int32) = 1) ∧ Q 1 σ3))))))) ∧ (¬ (x2 / 10000) < 1440 → ((0 : Int32) = 0 ∨ (0 : Int32) = 1) ∧ Q 0 σ)))) : Ex sc C 2 cd_18 Q 0 [some (.ref 0), some (.int x1), some (.int x2), none] [] σ := wpn_Ex (cuts := []) hC (fun _ _ _ _ z => z) 29 0 _ _ _ v
set_option maxHeartbeats 20000000 in
set_option maxRecDepth 100000 in
theorem hp_18 {sc : Nat × (Nat → Int32)} {Q : Int32 → St → Prop} {x1 x2 : Int32} {σ : St} (h : Ap (sp_18 x1 x2 σ) Q) : Ex sc CC 2 cd_18 Q 0 [some (.ref 0), some (.int x1), some (.int x2), none] [] σ := by
  exact ve_18 monCC x1 x2 σ (n_if h (fun h => n_rb h) (fun h => n_mb h (fun h => n_if h (fun h => n_mb h (fun h => cc_19 (n_bn h (fun r3 σ3 h => n_if h (fun h => n_rb h) (fun h => n_mb h (fun h => n_mb h (fun h => n_if h (fun h => n_rb h) (fun h => n_rb h)))))))) (fun h => n_rb h))))
-- TradeTests.isMiles
set_option maxHeartbeats 20000000 in
set_option maxRecDepth 100000 in
theorem ve_21 {sc : Nat × (Nat → Int32)} {C : CT} (hC : MonC C) {Q : Int32 → St → Prop} (x1 x2 : Int32) (σ : St) (v : ¬ (100 : Int32) = 0 ∧ (vp_in (x1 / 100) 24 ∧ ((¬ (σ 15 (x1 / 100).toNatClampNeg) = 3 → C 1 [.int x2, .int 1000000] σ (fun r3 σ3 => (r3 = 0 ∨ r3 = 1) ∧ Q r3 σ3)) ∧ ((σ 15 (x1 / 100).toNatClampNeg) = 3 → (¬ x2 = 0 → ((0 : Int32) = 0 ∨ (0 : Int32) = 1) ∧ Q 0 σ) ∧ (x2 = 0 → ((1 : Int32) = 0 ∨ (1 : Int32) = 1) ∧ Q 1 σ))))) : Ex sc C 2 cd_21 Q 0 [some (.ref 0), some (.int x1), some (.int x2)] [] σ := wpn_Ex (cuts := []) hC (fun _ _ _ _ z => z) 15 0 _ _ _ v
set_option maxHeartbeats 20000000 in
set_option maxRecDepth 100000 in
theorem hp_21 {sc : Nat × (Nat → Int32)} {Q : Int32 → St → Prop} {x1 x2 : Int32} {σ : St} (h : Ap (sp_21 x1 x2 σ) Q) : Ex sc CC 2 cd_21 Q 0 [some (.ref 0), some (.int x1), some (.int x2)] [] σ := by
  exact ve_21 monCC x1 x2 σ (n_mb h (fun h => n_mb h (fun h => n_ne h (fun h => n_ne h (fun h => n_rb h) (fun h => n_rb h)) (fun h => cc_1 (n_bn h (fun r3 σ3 h => n_rb h))))))
-- TradeTests$Trade.garageOf
set_option maxHeartbeats 20000000 in
set_option maxRecDepth 100000 in
theorem ve_24 {sc : Nat × (Nat → Int32)} {C : CT} (hC : MonC C) {Q : Int32 → St → Prop} (x2 : Int32) (σ : St) (v : vp_in x2 80 ∧ (vp_in x2 80 ∧ (C 14 [.ref 2, .int (σ 25 (x2).toNatClampNeg), .int (σ 26 (x2).toNatClampNeg)] σ (fun r3 σ3 => Q r3 σ3)))) : Ex sc C 1 cd_24 Q 0 [some (.ref 2), some (.ref 3), some (.int x2)] [] σ := wpn_Ex (cuts := []) hC (fun _ _ _ _ z => z) 12 0 _ _ _ v
set_option maxHeartbeats 20000000 in
set_option maxRecDepth 100000 in
theorem hp_24 {sc : Nat × (Nat → Int32)} {Q : Int32 → St → Prop} {x2 : Int32} {σ : St} (h : Ap (sp_24 x2 σ) Q) : Ex sc CC 1 cd_24 Q 0 [some (.ref 2), some (.ref 3), some (.int x2)] [] σ := by
  exact ve_24 monCC x2 σ (n_mb h (fun h => n_mb h (fun h => cc_14 (n_bn h (fun r3 σ3 h => n_rt h)))))
-- TradeTests.feed
set_option maxHeartbeats 20000000 in
set_option maxRecDepth 100000 in
theorem ve_26 {sc : Nat × (Nat → Int32)} {C : CT} (hC : MonC C) {Q : Int32 → St → Prop} (x1 : Int32) (σ : St) (v : C 1 [.int x1, .int 256] σ (fun r9 σ9 => (¬ r9 = 0 → ((σ9 4 1) < 60 → C 27 [.ref 4, .int x1] σ9 (fun r10 σ10 => Q r10 σ10)) ∧ (¬ (σ9 4 1) < 60 → C 2 [.ref 0, .int 4] σ9 (fun r11 σ11 => Q r11 σ11))) ∧ (r9 = 0 → C 2 [.ref 0, .int 1] σ9 (fun r12 σ12 => Q r12 σ12)))) : Ex sc C 1 cd_26 Q 0 [some (.ref 0), some (.int x1)] [] σ := wpn_Ex (cuts := []) hC (fun _ _ _ _ z => z) 15 0 _ _ _ v
set_option maxHeartbeats 20000000 in
set_option maxRecDepth 100000 in
theorem hp_26 {sc : Nat × (Nat → Int32)} {Q : Int32 → St → Prop} {x1 : Int32} {σ : St} (h : Ap (sp_26 x1 σ) Q) : Ex sc CC 1 cd_26 Q 0 [some (.ref 0), some (.int x1)] [] σ := by
  exact ve_26 monCC x1 σ (cc_1 (n_bn h (fun r9 σ9 h => n_ne h (fun h => cc_2 (n_bn h (fun r12 σ12 h => n_rt h))) (fun h => n_if h (fun h => cc_27 (n_bn h (fun r10 σ10 h => n_rt h))) (fun h => cc_2 (n_bn h (fun r11 σ11 h => n_rt h)))))))
-- TradeTests$Texts.readEnd
set_option maxHeartbeats 20000000 in
set_option maxRecDepth 100000 in
theorem ve_37 {sc : Nat × (Nat → Int32)} {C : CT} (hC : MonC C) {Q : Int32 → St → Prop}  (σ : St) (v : C 33 [.ref 4] σ (fun r3 σ3 => (r3 = 59 → ((1 : Int32) = 0 ∨ (1 : Int32) = 1) ∧ Q 1 (up σ3 4 2 ((σ3 4 2) + 1))) ∧ (¬ r3 = 59 → ((0 : Int32) = 0 ∨ (0 : Int32) = 1) ∧ Q 0 σ3))) : Ex sc C 2 cd_37 Q 0 [some (.ref 4)] [] σ := wpn_Ex (cuts := []) hC (fun _ _ _ _ z => z) 13 0 _ _ _ v
set_option maxHeartbeats 20000000 in
set_option maxRecDepth 100000 in
theorem hp_37 {sc : Nat × (Nat → Int32)} {Q : Int32 → St → Prop}  {σ : St} (h : Ap (sp_37  σ) Q) : Ex sc CC 2 cd_37 Q 0 [some (.ref 4)] [] σ := by
  exact ve_37 monCC  σ (cc_33 (n_bn h (fun r3 σ3 h => n_if h (fun h => n_rb h) (fun h => n_rb h))))
