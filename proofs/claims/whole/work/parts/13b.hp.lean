/-! the code does what the functions say (written by wip/whole/gen/spec.py) -/
-- TradeTests.vehicle
set_option maxHeartbeats 20000000 in
set_option maxRecDepth 100000 in
theorem hp_0 {sc : Nat × (Nat → Int32)} {Q : Int32 → St → Prop} {x1 x2 x3 : Int32} {σ : St} (h : Ap (sp_0 x1 x2 x3 σ) Q) : Ex sc CC 1 cd_0 Q 0 [some (.ref 0), some (.int x1), some (.int x2), some (.int x3)] [] σ := by
  have v : CC 1 [.int x1, .int 4] σ (fun r17 σ17 => (r17 = 0 → CC 2 [.ref 0, .int 1] σ17 (fun r18 σ18 => Q r18 σ18)) ∧ (¬ r17 = 0 → CC 1 [.int x2, .int 4] σ17 (fun r19 σ19 => (r19 = 0 → CC 2 [.ref 0, .int 1] σ19 (fun r20 σ20 => Q r20 σ20)) ∧ (¬ r19 = 0 → CC 1 [.int x3, .int 10000] σ19 (fun r21 σ21 => (¬ r21 = 0 → ((σ21 1 3) < 24 → CC 3 [.ref 1, .int x1, .int x2, .int x3] σ21 (fun r22 σ22 => Q r22 σ22)) ∧ (¬ (σ21 1 3) < 24 → CC 2 [.ref 0, .int 4] σ21 (fun r23 σ23 => Q r23 σ23))) ∧ (r21 = 0 → CC 2 [.ref 0, .int 1] σ21 (fun r24 σ24 => Q r24 σ24))))))) := cc_1 (n_bn h (fun r17 σ17 h => n_if h (fun h => cc_2 (n_bn h (fun r18 σ18 h => n_rt h))) (fun h => cc_1 (n_bn h (fun r19 σ19 h => n_if h (fun h => cc_2 (n_bn h (fun r20 σ20 h => n_rt h))) (fun h => cc_1 (n_bn h (fun r21 σ21 h => n_ne h (fun h => cc_2 (n_bn h (fun r24 σ24 h => n_rt h))) (fun h => n_if h (fun h => cc_3 (n_bn h (fun r22 σ22 h => n_rt h))) (fun h => cc_2 (n_bn h (fun r23 σ23 h => n_rt h))))))))))))
  exact wpn_Ex (cuts := []) monCC (fun _ _ _ _ z => z) 25 0 _ _ _ v
-- TradeTests.as
set_option maxHeartbeats 20000000 in
set_option maxRecDepth 100000 in
theorem hp_4 {sc : Nat × (Nat → Int32)} {Q : Int32 → St → Prop} {x1 x2 : Int32} {σ : St} (h : Ap (sp_4 x1 x2 σ) Q) : Ex sc CC 1 cd_4 Q 0 [some (.ref 0), some (.int x1), some (.int x2)] [] σ := by
  have v : CC 1 [.int x1, .int (σ 1 3)] σ (fun r15 σ15 => (r15 = 0 → CC 2 [.ref 0, .int 1] σ15 (fun r16 σ16 => Q r16 σ16)) ∧ (¬ r15 = 0 → CC 1 [.int x2, .int 4] σ15 (fun r17 σ17 => (¬ r17 = 0 → vp_in x1 24 ∧ (CC 5 [.int (σ17 15 (x1).toNatClampNeg), .int x2] σ17 (fun r18 σ18 => (¬ r18 = 0 → CC 6 [.ref 1, .int x1] σ18 (fun r19 σ19 => Q r19 σ19)) ∧ (r18 = 0 → CC 2 [.ref 0, .int 5] σ18 (fun r20 σ20 => Q r20 σ20))))) ∧ (r17 = 0 → CC 2 [.ref 0, .int 1] σ17 (fun r21 σ21 => Q r21 σ21))))) := cc_1 (n_bn h (fun r15 σ15 h => n_if h (fun h => cc_2 (n_bn h (fun r16 σ16 h => n_rt h))) (fun h => cc_1 (n_bn h (fun r17 σ17 h => n_ne h (fun h => cc_2 (n_bn h (fun r21 σ21 h => n_rt h))) (fun h => n_mb h (fun h => cc_5 (n_bn h (fun r18 σ18 h => n_ne h (fun h => cc_2 (n_bn h (fun r20 σ20 h => n_rt h))) (fun h => cc_6 (n_bn h (fun r19 σ19 h => n_rt h))))))))))))
  exact wpn_Ex (cuts := []) monCC (fun _ _ _ _ z => z) 24 0 _ _ _ v
-- TradeTests.garage
set_option maxHeartbeats 20000000 in
set_option maxRecDepth 100000 in
theorem hp_7 {sc : Nat × (Nat → Int32)} {Q : Int32 → St → Prop} {x1 x2 : Int32} {σ : St} (h : Ap (sp_7 x1 x2 σ) Q) : Ex sc CC 1 cd_7 Q 0 [some (.ref 0), some (.int x1), some (.int x2)] [] σ := by
  have v : CC 1 [.int x1, .int 1440] σ (fun r13 σ13 => (r13 = 0 → CC 2 [.ref 0, .int 1] σ13 (fun r14 σ14 => Q r14 σ14)) ∧ (¬ r13 = 0 → (x2 ≤ x1 → CC 2 [.ref 0, .int 1] σ13 (fun r15 σ15 => Q r15 σ15)) ∧ (¬ x2 ≤ x1 → (x2 ≤ 1440 → ((σ13 2 2) < 6 → CC 8 [.ref 2, .int x1, .int x2] σ13 (fun r16 σ16 => Q r16 σ16)) ∧ (¬ (σ13 2 2) < 6 → CC 2 [.ref 0, .int 4] σ13 (fun r17 σ17 => Q r17 σ17))) ∧ (¬ x2 ≤ 1440 → CC 2 [.ref 0, .int 1] σ13 (fun r18 σ18 => Q r18 σ18))))) := cc_1 (n_bn h (fun r13 σ13 h => n_if h (fun h => cc_2 (n_bn h (fun r14 σ14 h => n_rt h))) (fun h => n_if h (fun h => cc_2 (n_bn h (fun r15 σ15 h => n_rt h))) (fun h => n_if h (fun h => n_if h (fun h => cc_8 (n_bn h (fun r16 σ16 h => n_rt h))) (fun h => cc_2 (n_bn h (fun r17 σ17 h => n_rt h)))) (fun h => cc_2 (n_bn h (fun r18 σ18 h => n_rt h)))))))
  exact wpn_Ex (cuts := []) monCC (fun _ _ _ _ z => z) 22 0 _ _ _ v
-- TradeTests.tester
set_option maxHeartbeats 20000000 in
set_option maxRecDepth 100000 in
theorem hp_9 {sc : Nat × (Nat → Int32)} {Q : Int32 → St → Prop} {x1 : Int32} {σ : St} (h : Ap (sp_9 x1 σ) Q) : Ex sc CC 1 cd_9 Q 0 [some (.ref 0), some (.int x1)] [] σ := by
  have v : CC 1 [.int x1, .int (σ 2 2)] σ (fun r9 σ9 => (¬ r9 = 0 → ((σ9 2 4) < 8 → CC 10 [.ref 2, .int x1] σ9 (fun r10 σ10 => Q r10 σ10)) ∧ (¬ (σ9 2 4) < 8 → CC 2 [.ref 0, .int 4] σ9 (fun r11 σ11 => Q r11 σ11))) ∧ (r9 = 0 → CC 2 [.ref 0, .int 1] σ9 (fun r12 σ12 => Q r12 σ12))) := cc_1 (n_bn h (fun r9 σ9 h => n_ne h (fun h => cc_2 (n_bn h (fun r12 σ12 h => n_rt h))) (fun h => n_if h (fun h => cc_10 (n_bn h (fun r10 σ10 h => n_rt h))) (fun h => cc_2 (n_bn h (fun r11 σ11 h => n_rt h))))))
  exact wpn_Ex (cuts := []) monCC (fun _ _ _ _ z => z) 17 0 _ _ _ v
-- TradeTests.move
set_option maxHeartbeats 20000000 in
set_option maxRecDepth 100000 in
theorem hp_11 {sc : Nat × (Nat → Int32)} {Q : Int32 → St → Prop} {x1 x2 x3 : Int32} {σ : St} (h : Ap (sp_11 x1 x2 x3 σ) Q) : Ex sc CC 1 cd_11 Q 0 [some (.ref 0), some (.int x1), some (.int x2), some (.int x3)] [] σ := by
  have v : CC 1 [.int x1, .int (σ 2 4)] σ (fun r23 σ23 => (r23 = 0 → CC 2 [.ref 0, .int 1] σ23 (fun r24 σ24 => Q r24 σ24)) ∧ (¬ r23 = 0 → CC 1 [.int x2, .int (σ23 2 2)] σ23 (fun r25 σ25 => (r25 = 0 → CC 2 [.ref 0, .int 1] σ25 (fun r26 σ26 => Q r26 σ26)) ∧ (¬ r25 = 0 → CC 1 [.int x3, .int 10000] σ25 (fun r27 σ27 => (¬ r27 = 0 → CC 12 [.ref 2, .int x1] σ27 (fun r28 σ28 => (r28 ≤ x3 → ((σ28 2 8) < 30 → CC 13 [.ref 2, .int x1, .int x2, .int x3] σ28 (fun r29 σ29 => CC 14 [.ref 2, .int x1, .int (x3 - 1)] σ29 (fun r30 σ30 => Q r30 σ30))) ∧ (¬ (σ28 2 8) < 30 → CC 2 [.ref 0, .int 4] σ28 (fun r31 σ31 => Q r31 σ31))) ∧ (¬ r28 ≤ x3 → CC 2 [.ref 0, .int 1] σ28 (fun r32 σ32 => Q r32 σ32)))) ∧ (r27 = 0 → CC 2 [.ref 0, .int 1] σ27 (fun r33 σ33 => Q r33 σ33))))))) := cc_1 (n_bn h (fun r23 σ23 h => n_if h (fun h => cc_2 (n_bn h (fun r24 σ24 h => n_rt h))) (fun h => cc_1 (n_bn h (fun r25 σ25 h => n_if h (fun h => cc_2 (n_bn h (fun r26 σ26 h => n_rt h))) (fun h => cc_1 (n_bn h (fun r27 σ27 h => n_ne h (fun h => cc_2 (n_bn h (fun r33 σ33 h => n_rt h))) (fun h => cc_12 (n_bn h (fun r28 σ28 h => n_if h (fun h => n_if h (fun h => cc_13 (n_bn h (fun r29 σ29 h => cc_14 (n_bn h (fun r30 σ30 h => n_rt h))))) (fun h => cc_2 (n_bn h (fun r31 σ31 h => n_rt h)))) (fun h => cc_2 (n_bn h (fun r32 σ32 h => n_rt h))))))))))))))
  exact wpn_Ex (cuts := []) monCC (fun _ _ _ _ z => z) 42 0 _ _ _ v
-- TradeTests.at
set_option maxHeartbeats 20000000 in
set_option maxRecDepth 100000 in
theorem hp_15 {sc : Nat × (Nat → Int32)} {Q : Int32 → St → Prop} {x1 x2 : Int32} {σ : St} (h : Ap (sp_15 x1 x2 σ) Q) : Ex sc CC 1 cd_15 Q 0 [some (.ref 0), some (.int x1), some (.int x2)] [] σ := by
  have v : CC 1 [.int x1, .int (σ 2 4)] σ (fun r11 σ11 => (r11 = 0 → CC 2 [.ref 0, .int 1] σ11 (fun r12 σ12 => Q r12 σ12)) ∧ (¬ r11 = 0 → CC 1 [.int x2, .int 10000] σ11 (fun r13 σ13 => (¬ r13 = 0 → CC 14 [.ref 2, .int x1, .int x2] σ13 (fun r14 σ14 => Q r14 σ14)) ∧ (r13 = 0 → CC 2 [.ref 0, .int 1] σ13 (fun r15 σ15 => Q r15 σ15))))) := cc_1 (n_bn h (fun r11 σ11 h => n_if h (fun h => cc_2 (n_bn h (fun r12 σ12 h => n_rt h))) (fun h => cc_1 (n_bn h (fun r13 σ13 h => n_ne h (fun h => cc_2 (n_bn h (fun r15 σ15 h => n_rt h))) (fun h => cc_14 (n_bn h (fun r14 σ14 h => n_rt h))))))))
  exact wpn_Ex (cuts := []) monCC (fun _ _ _ _ z => z) 17 0 _ _ _ v
-- TradeTests.isWhen
set_option maxHeartbeats 20000000 in
set_option maxRecDepth 100000 in
theorem hp_18 {sc : Nat × (Nat → Int32)} {Q : Int32 → St → Prop} {x1 x2 : Int32} {σ : St} (h : Ap (sp_18 x1 x2 σ) Q) : Ex sc CC 2 cd_18 Q 0 [some (.ref 0), some (.int x1), some (.int x2), none] [] σ := by
  have v : (x2 < 0 → ((0 : Int32) = 0 ∨ (0 : Int32) = 1) ∧ Q 0 σ) ∧ (¬ x2 < 0 → ¬ (10000 : Int32) = 0 ∧ (((x2 / 10000) < 1440 → ¬ (10000 : Int32) = 0 ∧ (CC 19 [.ref 3] σ (fun r3 σ3 => ((x2 - x2 / 10000 * 10000) < r3 → ((0 : Int32) = 0 ∨ (0 : Int32) = 1) ∧ Q 0 σ3) ∧ (¬ (x2 - x2 / 10000 * 10000) < r3 → ¬ (100 : Int32) = 0 ∧ (vp_in (x1 / 100) 24 ∧ (((x2 - x2 / 10000 * 10000) < (σ3 17 (x1 / 100).toNatClampNeg) → ((0 : Int32) = 0 ∨ (0 : Int32) = 1) ∧ Q 0 σ3) ∧ (¬ (x2 - x2 / 10000 * 10000) < (σ3 17 (x1 / 100).toNatClampNeg) → ((1 : Int32) = 0 ∨ (1 : Int32) = 1) ∧ Q 1 σ3))))))) ∧ (¬ (x2 / 10000) < 1440 → ((0 : Int32) = 0 ∨ (0 : Int32) = 1) ∧ Q 0 σ))) := n_if h (fun h => n_rb h) (fun h => n_mb h (fun h => n_if h (fun h => n_mb h (fun h => cc_19 (n_bn h (fun r3 σ3 h => n_if h (fun h => n_rb h) (fun h => n_mb h (fun h => n_mb h (fun h => n_if h (fun h => n_rb h) (fun h => n_rb h)))))))) (fun h => n_rb h)))
  exact wpn_Ex (cuts := []) monCC (fun _ _ _ _ z => z) 29 0 _ _ _ v
-- TradeTests.isMiles
set_option maxHeartbeats 20000000 in
set_option maxRecDepth 100000 in
theorem hp_21 {sc : Nat × (Nat → Int32)} {Q : Int32 → St → Prop} {x1 x2 : Int32} {σ : St} (h : Ap (sp_21 x1 x2 σ) Q) : Ex sc CC 2 cd_21 Q 0 [some (.ref 0), some (.int x1), some (.int x2)] [] σ := by
  have v : ¬ (100 : Int32) = 0 ∧ (vp_in (x1 / 100) 24 ∧ ((¬ (σ 15 (x1 / 100).toNatClampNeg) = 3 → CC 1 [.int x2, .int 1000000] σ (fun r3 σ3 => (r3 = 0 ∨ r3 = 1) ∧ Q r3 σ3)) ∧ ((σ 15 (x1 / 100).toNatClampNeg) = 3 → (¬ x2 = 0 → ((0 : Int32) = 0 ∨ (0 : Int32) = 1) ∧ Q 0 σ) ∧ (x2 = 0 → ((1 : Int32) = 0 ∨ (1 : Int32) = 1) ∧ Q 1 σ)))) := n_mb h (fun h => n_mb h (fun h => n_ne h (fun h => n_ne h (fun h => n_rb h) (fun h => n_rb h)) (fun h => cc_1 (n_bn h (fun r3 σ3 h => n_rb h)))))
  exact wpn_Ex (cuts := []) monCC (fun _ _ _ _ z => z) 15 0 _ _ _ v
-- TradeTests$Trade.garageOf
set_option maxHeartbeats 20000000 in
set_option maxRecDepth 100000 in
theorem hp_24 {sc : Nat × (Nat → Int32)} {Q : Int32 → St → Prop} {x2 : Int32} {σ : St} (h : Ap (sp_24 x2 σ) Q) : Ex sc CC 1 cd_24 Q 0 [some (.ref 2), some (.ref 3), some (.int x2)] [] σ := by
  have v : vp_in x2 80 ∧ (vp_in x2 80 ∧ (CC 14 [.ref 2, .int (σ 25 (x2).toNatClampNeg), .int (σ 26 (x2).toNatClampNeg)] σ (fun r3 σ3 => Q r3 σ3))) := n_mb h (fun h => n_mb h (fun h => cc_14 (n_bn h (fun r3 σ3 h => n_rt h))))
  exact wpn_Ex (cuts := []) monCC (fun _ _ _ _ z => z) 12 0 _ _ _ v
-- TradeTests.feed
set_option maxHeartbeats 20000000 in
set_option maxRecDepth 100000 in
theorem hp_26 {sc : Nat × (Nat → Int32)} {Q : Int32 → St → Prop} {x1 : Int32} {σ : St} (h : Ap (sp_26 x1 σ) Q) : Ex sc CC 1 cd_26 Q 0 [some (.ref 0), some (.int x1)] [] σ := by
  have v : CC 1 [.int x1, .int 256] σ (fun r9 σ9 => (¬ r9 = 0 → ((σ9 4 1) < 60 → CC 27 [.ref 4, .int x1] σ9 (fun r10 σ10 => Q r10 σ10)) ∧ (¬ (σ9 4 1) < 60 → CC 2 [.ref 0, .int 4] σ9 (fun r11 σ11 => Q r11 σ11))) ∧ (r9 = 0 → CC 2 [.ref 0, .int 1] σ9 (fun r12 σ12 => Q r12 σ12))) := cc_1 (n_bn h (fun r9 σ9 h => n_ne h (fun h => cc_2 (n_bn h (fun r12 σ12 h => n_rt h))) (fun h => n_if h (fun h => cc_27 (n_bn h (fun r10 σ10 h => n_rt h))) (fun h => cc_2 (n_bn h (fun r11 σ11 h => n_rt h))))))
  exact wpn_Ex (cuts := []) monCC (fun _ _ _ _ z => z) 15 0 _ _ _ v
-- TradeTests$Texts.readEnd
set_option maxHeartbeats 20000000 in
set_option maxRecDepth 100000 in
theorem hp_37 {sc : Nat × (Nat → Int32)} {Q : Int32 → St → Prop}  {σ : St} (h : Ap (sp_37  σ) Q) : Ex sc CC 2 cd_37 Q 0 [some (.ref 4)] [] σ := by
  have v : CC 33 [.ref 4] σ (fun r3 σ3 => (r3 = 59 → ((1 : Int32) = 0 ∨ (1 : Int32) = 1) ∧ Q 1 (up σ3 4 2 ((σ3 4 2) + 1))) ∧ (¬ r3 = 59 → ((0 : Int32) = 0 ∨ (0 : Int32) = 1) ∧ Q 0 σ3)) := cc_33 (n_bn h (fun r3 σ3 h => n_if h (fun h => n_rb h) (fun h => n_rb h)))
  exact wpn_Ex (cuts := []) monCC (fun _ _ _ _ z => z) 13 0 _ _ _ v
-- TradeTests.says
set_option maxHeartbeats 20000000 in
set_option maxRecDepth 100000 in
theorem hp_39 {sc : Nat × (Nat → Int32)} {Q : Int32 → St → Prop} {x1 x2 : Int32} {σ : St} (h : Ap (sp_39 x1 x2 σ) Q) : Ex sc CC 1 cd_39 Q 0 [some (.ref 0), some (.int x1), some (.int x2), none, none] [] σ := by
  have v : (x2 = 0 → CC 1 [.int x1, .int 10000] σ (fun r61 σ61 => (r61 = 0 → CC 2 [.ref 0, .int 1] σ61 (fun r62 σ62 => Q r62 σ62)) ∧ (¬ r61 = 0 → (¬ (1 : Int32) = 0 → CC 40 [.ref 4, .int x1] σ61 (fun r63 σ63 => (0 ≤ r63 → (x2 < 10 → (¬ x2 = 0 → vp_in r63 6 ∧ (Q (σ63 41 (r63).toNatClampNeg) σ63)) ∧ (x2 = 0 → vp_in r63 6 ∧ (Q (σ63 40 (r63).toNatClampNeg) σ63))) ∧ (¬ x2 < 10 → CC 41 [.ref 4, .int r63, .int (x2 - 10)] σ63 (fun r64 σ64 => Q r64 σ64))) ∧ (¬ 0 ≤ r63 → CC 2 [.ref 0, .int 2] σ63 (fun r65 σ65 => Q r65 σ65)))) ∧ ((1 : Int32) = 0 → CC 2 [.ref 0, .int 1] σ61 (fun r66 σ66 => Q r66 σ66))))) ∧ (¬ x2 = 0 → (x2 = 1 → CC 1 [.int x1, .int 10000] σ (fun r67 σ67 => (r67 = 0 → CC 2 [.ref 0, .int 1] σ67 (fun r68 σ68 => Q r68 σ68)) ∧ (¬ r67 = 0 → (¬ (1 : Int32) = 0 → CC 40 [.ref 4, .int x1] σ67 (fun r69 σ69 => (0 ≤ r69 → (x2 < 10 → (¬ x2 = 0 → vp_in r69 6 ∧ (Q (σ69 41 (r69).toNatClampNeg) σ69)) ∧ (x2 = 0 → vp_in r69 6 ∧ (Q (σ69 40 (r69).toNatClampNeg) σ69))) ∧ (¬ x2 < 10 → CC 41 [.ref 4, .int r69, .int (x2 - 10)] σ69 (fun r70 σ70 => Q r70 σ70))) ∧ (¬ 0 ≤ r69 → CC 2 [.ref 0, .int 2] σ69 (fun r71 σ71 => Q r71 σ71)))) ∧ ((1 : Int32) = 0 → CC 2 [.ref 0, .int 1] σ67 (fun r72 σ72 => Q r72 σ72))))) ∧ (¬ x2 = 1 → (x2 < 10 → CC 1 [.int x1, .int 10000] σ (fun r73 σ73 => (r73 = 0 → CC 2 [.ref 0, .int 1] σ73 (fun r74 σ74 => Q r74 σ74)) ∧ (¬ r73 = 0 → (¬ (0 : Int32) = 0 → CC 40 [.ref 4, .int x1] σ73 (fun r75 σ75 => (0 ≤ r75 → (x2 < 10 → (¬ x2 = 0 → vp_in r75 6 ∧ (Q (σ75 41 (r75).toNatClampNeg) σ75)) ∧ (x2 = 0 → vp_in r75 6 ∧ (Q (σ75 40 (r75).toNatClampNeg) σ75))) ∧ (¬ x2 < 10 → CC 41 [.ref 4, .int r75, .int (x2 - 10)] σ75 (fun r76 σ76 => Q r76 σ76))) ∧ (¬ 0 ≤ r75 → CC 2 [.ref 0, .int 2] σ75 (fun r77 σ77 => Q r77 σ77)))) ∧ ((0 : Int32) = 0 → CC 2 [.ref 0, .int 1] σ73 (fun r78 σ78 => Q r78 σ78))))) ∧ (¬ x2 < 10 → (14 ≤ x2 → CC 1 [.int x1, .int 10000] σ (fun r79 σ79 => (r79 = 0 → CC 2 [.ref 0, .int 1] σ79 (fun r80 σ80 => Q r80 σ80)) ∧ (¬ r79 = 0 → (¬ (0 : Int32) = 0 → CC 40 [.ref 4, .int x1] σ79 (fun r81 σ81 => (0 ≤ r81 → (x2 < 10 → (¬ x2 = 0 → vp_in r81 6 ∧ (Q (σ81 41 (r81).toNatClampNeg) σ81)) ∧ (x2 = 0 → vp_in r81 6 ∧ (Q (σ81 40 (r81).toNatClampNeg) σ81))) ∧ (¬ x2 < 10 → CC 41 [.ref 4, .int r81, .int (x2 - 10)] σ81 (fun r82 σ82 => Q r82 σ82))) ∧ (¬ 0 ≤ r81 → CC 2 [.ref 0, .int 2] σ81 (fun r83 σ83 => Q r83 σ83)))) ∧ ((0 : Int32) = 0 → CC 2 [.ref 0, .int 1] σ79 (fun r84 σ84 => Q r84 σ84))))) ∧ (¬ 14 ≤ x2 → CC 1 [.int x1, .int 10000] σ (fun r85 σ85 => (r85 = 0 → CC 2 [.ref 0, .int 1] σ85 (fun r86 σ86 => Q r86 σ86)) ∧ (¬ r85 = 0 → (¬ (1 : Int32) = 0 → CC 40 [.ref 4, .int x1] σ85 (fun r87 σ87 => (0 ≤ r87 → (x2 < 10 → (¬ x2 = 0 → vp_in r87 6 ∧ (Q (σ87 41 (r87).toNatClampNeg) σ87)) ∧ (x2 = 0 → vp_in r87 6 ∧ (Q (σ87 40 (r87).toNatClampNeg) σ87))) ∧ (¬ x2 < 10 → CC 41 [.ref 4, .int r87, .int (x2 - 10)] σ87 (fun r88 σ88 => Q r88 σ88))) ∧ (¬ 0 ≤ r87 → CC 2 [.ref 0, .int 2] σ87 (fun r89 σ89 => Q r89 σ89)))) ∧ ((1 : Int32) = 0 → CC 2 [.ref 0, .int 1] σ85 (fun r90 σ90 => Q r90 σ90)))))))) := n_if h (fun h => cc_1 (n_bn h (fun r61 σ61 h => n_if h (fun h => cc_2 (n_bn h (fun r62 σ62 h => n_rt h))) (fun h => n_ne h (fun h => cc_2 (n_bn h (fun r66 σ66 h => n_rt h))) (fun h => cc_40 (n_bn h (fun r63 σ63 h => n_if h (fun h => n_if h (fun h => n_ne h (fun h => n_mb h (fun h => n_rt h)) (fun h => n_mb h (fun h => n_rt h))) (fun h => cc_41 (n_bn h (fun r64 σ64 h => n_rt h)))) (fun h => cc_2 (n_bn h (fun r65 σ65 h => n_rt h)))))))))) (fun h => n_if h (fun h => cc_1 (n_bn h (fun r67 σ67 h => n_if h (fun h => cc_2 (n_bn h (fun r68 σ68 h => n_rt h))) (fun h => n_ne h (fun h => cc_2 (n_bn h (fun r72 σ72 h => n_rt h))) (fun h => cc_40 (n_bn h (fun r69 σ69 h => n_if h (fun h => n_if h (fun h => n_ne h (fun h => n_mb h (fun h => n_rt h)) (fun h => n_mb h (fun h => n_rt h))) (fun h => cc_41 (n_bn h (fun r70 σ70 h => n_rt h)))) (fun h => cc_2 (n_bn h (fun r71 σ71 h => n_rt h)))))))))) (fun h => n_if h (fun h => cc_1 (n_bn h (fun r73 σ73 h => n_if h (fun h => cc_2 (n_bn h (fun r74 σ74 h => n_rt h))) (fun h => n_ne h (fun h => cc_2 (n_bn h (fun r78 σ78 h => n_rt h))) (fun h => cc_40 (n_bn h (fun r75 σ75 h => n_if h (fun h => n_if h (fun h => n_ne h (fun h => n_mb h (fun h => n_rt h)) (fun h => n_mb h (fun h => n_rt h))) (fun h => cc_41 (n_bn h (fun r76 σ76 h => n_rt h)))) (fun h => cc_2 (n_bn h (fun r77 σ77 h => n_rt h)))))))))) (fun h => n_if h (fun h => cc_1 (n_bn h (fun r79 σ79 h => n_if h (fun h => cc_2 (n_bn h (fun r80 σ80 h => n_rt h))) (fun h => n_ne h (fun h => cc_2 (n_bn h (fun r84 σ84 h => n_rt h))) (fun h => cc_40 (n_bn h (fun r81 σ81 h => n_if h (fun h => n_if h (fun h => n_ne h (fun h => n_mb h (fun h => n_rt h)) (fun h => n_mb h (fun h => n_rt h))) (fun h => cc_41 (n_bn h (fun r82 σ82 h => n_rt h)))) (fun h => cc_2 (n_bn h (fun r83 σ83 h => n_rt h)))))))))) (fun h => cc_1 (n_bn h (fun r85 σ85 h => n_if h (fun h => cc_2 (n_bn h (fun r86 σ86 h => n_rt h))) (fun h => n_ne h (fun h => cc_2 (n_bn h (fun r90 σ90 h => n_rt h))) (fun h => cc_40 (n_bn h (fun r87 σ87 h => n_if h (fun h => n_if h (fun h => n_ne h (fun h => n_mb h (fun h => n_rt h)) (fun h => n_mb h (fun h => n_rt h))) (fun h => cc_41 (n_bn h (fun r88 σ88 h => n_rt h)))) (fun h => cc_2 (n_bn h (fun r89 σ89 h => n_rt h)))))))))))))
  exact wpn_Ex (cuts := []) monCC (fun _ _ _ _ z => z) 40 0 _ _ _ v
-- TradeTests$Judge.passes
set_option maxHeartbeats 20000000 in
set_option maxRecDepth 100000 in
theorem hp_43 {sc : Nat × (Nat → Int32)} {Q : Int32 → St → Prop} {x1 : Int32} {σ : St} (h : Ap (sp_43 x1 σ) Q) : Ex sc CC 2 cd_43 Q 0 [some (.ref 5), some (.int x1), none, none] [] σ := by
  have v : vp_in x1 80 ∧ (CC 40 [.ref 4, .int (σ 26 (x1).toNatClampNeg)] σ (fun r7 σ7 => (0 ≤ r7 → vp_in x1 80 ∧ (vp_in (σ7 24 (x1).toNatClampNeg) 24 ∧ (CC 41 [.ref 4, .int r7, .int (σ7 15 (σ7 24 (x1).toNatClampNeg).toNatClampNeg)] σ7 (fun r8 σ8 => vp_in x1 80 ∧ (((r8 &&& (σ8 32 (x1).toNatClampNeg)) = 0 → ((σ7 15 (σ7 24 (x1).toNatClampNeg).toNatClampNeg) = 3 → ((1 : Int32) = 0 ∨ (1 : Int32) = 1) ∧ Q 1 σ8) ∧ (¬ (σ7 15 (σ7 24 (x1).toNatClampNeg).toNatClampNeg) = 3 → vp_in x1 80 ∧ (vp_in x1 80 ∧ (CC 44 [.ref 5, .int r7, .int (σ8 30 (x1).toNatClampNeg), .int (σ8 31 (x1).toNatClampNeg)] σ8 (fun r9 σ9 => (r9 = 0 → ((0 : Int32) = 0 ∨ (0 : Int32) = 1) ∧ Q 0 σ9) ∧ (¬ r9 = 0 → ((1 : Int32) = 0 ∨ (1 : Int32) = 1) ∧ Q 1 σ9)))))) ∧ (¬ (r8 &&& (σ8 32 (x1).toNatClampNeg)) = 0 → ((0 : Int32) = 0 ∨ (0 : Int32) = 1) ∧ Q 0 σ8)))))) ∧ (¬ 0 ≤ r7 → ((1 : Int32) = 0 ∨ (1 : Int32) = 1) ∧ Q 1 σ7))) := n_mb h (fun h => cc_40 (n_bn h (fun r7 σ7 h => n_if h (fun h => n_mb h (fun h => n_mb h (fun h => cc_41 (n_bn h (fun r8 σ8 h => n_mb h (fun h => n_if h (fun h => n_if h (fun h => n_rb h) (fun h => n_mb h (fun h => n_mb h (fun h => cc_44 (n_bn h (fun r9 σ9 h => n_if h (fun h => n_rb h) (fun h => n_rb h))))))) (fun h => n_rb h))))))) (fun h => n_rb h))))
  exact wpn_Ex (cuts := []) monCC (fun _ _ _ _ z => z) 54 0 _ _ _ v
-- TradeTests$Signals.isAlike
set_option maxHeartbeats 20000000 in
set_option maxRecDepth 100000 in
theorem hp_52 {sc : Nat × (Nat → Int32)} {Q : Int32 → St → Prop} {x1 x2 : Int32} {σ : St} (h : Ap (sp_52 x1 x2 σ) Q) : Ex sc CC 2 cd_52 Q 0 [some (.ref 6), some (.int x1), some (.int x2)] [] σ := by
  have v : vp_in x1 80 ∧ (vp_in x2 80 ∧ (((σ 24 (x1).toNatClampNeg) = (σ 24 (x2).toNatClampNeg) → ((0 : Int32) = 0 ∨ (0 : Int32) = 1) ∧ Q 0 σ) ∧ (¬ (σ 24 (x1).toNatClampNeg) = (σ 24 (x2).toNatClampNeg) → vp_in x1 80 ∧ (vp_in x2 80 ∧ ((30 < (absI ((σ 26 (x1).toNatClampNeg) - (σ 26 (x2).toNatClampNeg))) → ((0 : Int32) = 0 ∨ (0 : Int32) = 1) ∧ Q 0 σ) ∧ (¬ 30 < (absI ((σ 26 (x1).toNatClampNeg) - (σ 26 (x2).toNatClampNeg))) → vp_in x1 80 ∧ (vp_in x2 80 ∧ ((1 < (absI ((σ 30 (x1).toNatClampNeg) - (σ 30 (x2).toNatClampNeg))) → ((0 : Int32) = 0 ∨ (0 : Int32) = 1) ∧ Q 0 σ) ∧ (¬ 1 < (absI ((σ 30 (x1).toNatClampNeg) - (σ 30 (x2).toNatClampNeg))) → vp_in x1 80 ∧ (vp_in x2 80 ∧ ((1 < (absI ((σ 31 (x1).toNatClampNeg) - (σ 31 (x2).toNatClampNeg))) → ((0 : Int32) = 0 ∨ (0 : Int32) = 1) ∧ Q 0 σ) ∧ (¬ 1 < (absI ((σ 31 (x1).toNatClampNeg) - (σ 31 (x2).toNatClampNeg))) → ((1 : Int32) = 0 ∨ (1 : Int32) = 1) ∧ Q 1 σ)))))))))))) := n_mb h (fun h => n_mb h (fun h => n_if h (fun h => n_rb h) (fun h => n_mb h (fun h => n_mb h (fun h => n_if h (fun h => n_rb h) (fun h => n_mb h (fun h => n_mb h (fun h => n_if h (fun h => n_rb h) (fun h => n_mb h (fun h => n_mb h (fun h => n_if h (fun h => n_rb h) (fun h => n_rb h))))))))))))
  exact wpn_Ex (cuts := []) monCC (fun _ _ _ _ z => z) 57 0 _ _ _ v
-- TradeTests$Signals.isOverlapping
set_option maxHeartbeats 20000000 in
set_option maxRecDepth 100000 in
theorem hl_55_2 {sc : Nat × (Nat → Int32)} {Q : Int32 → St → Prop} : ∀ (n : Nat) (v1 : Int32) (v2 : Int32) (σ : St), Ap (lp_55_2 n v1 v2 σ) Q → Ex sc CC 2 cd_55 Q 2 [some (.ref 6), some (.int v1), some (.int v2)] [] σ := by
  intro n
  induction n with
  | zero => intro v1 v2 σ h; exact n_no h
  | succ n ih =>
    intro v1 v2 σ h
    have v : ((σ 3 14) ≤ v2 → ((0 : Int32) = 0 ∨ (0 : Int32) = 1) ∧ Q 0 σ) ∧ (¬ (σ 3 14) ≤ v2 → (v2 = v1 → Ex sc CC 2 cd_55 Q 2 [some (.ref 6), some (.int v1), some (.int (v2 + 1))] [] σ) ∧ (¬ v2 = v1 → vp_in v2 80 ∧ (vp_in v1 80 ∧ ((¬ (σ 25 (v2).toNatClampNeg) = (σ 25 (v1).toNatClampNeg) → Ex sc CC 2 cd_55 Q 2 [some (.ref 6), some (.int v1), some (.int (v2 + 1))] [] σ) ∧ ((σ 25 (v2).toNatClampNeg) = (σ 25 (v1).toNatClampNeg) → CC 56 [.ref 6, .int v2, .int v1] σ (fun r3 σ3 => (r3 = 0 → Ex sc CC 2 cd_55 Q 2 [some (.ref 6), some (.int v1), some (.int (v2 + 1))] [] σ3) ∧ (¬ r3 = 0 → ((1 : Int32) = 0 ∨ (1 : Int32) = 1) ∧ Q 1 σ3))))))) := n_if h (fun h => n_rb h) (fun h => n_if h (fun h => ih v1 (v2 + 1) σ h) (fun h => n_mb h (fun h => n_mb h (fun h => n_ne h (fun h => cc_56 (n_bn h (fun r3 σ3 h => n_if h (fun h => ih v1 (v2 + 1) σ3 h) (fun h => n_rb h)))) (fun h => ih v1 (v2 + 1) σ h)))))
    exact stw_Ex (cuts := [2]) monCC 27 v
set_option maxHeartbeats 20000000 in
set_option maxRecDepth 100000 in
theorem hp_55 {sc : Nat × (Nat → Int32)} {Q : Int32 → St → Prop} {x1 : Int32} {σ : St} (h : Ap (sp_55 x1 σ) Q) : Ex sc CC 2 cd_55 Q 0 [some (.ref 6), some (.int x1), none] [] σ := by
  have v : Ex sc CC 2 cd_55 Q 2 [some (.ref 6), some (.int x1), some (.int 0)] [] σ := hl_55_2 FU x1 0 σ h
  exact wpn_Ex (cuts := [2]) monCC (fun _ _ _ _ z => z) 4 0 _ _ _ v
-- TradeTests$Secrets.knownIn
set_option maxHeartbeats 20000000 in
set_option maxRecDepth 100000 in
theorem hp_60 {sc : Nat × (Nat → Int32)} {Q : Int32 → St → Prop} {x1 : Int32} {σ : St} (h : Ap (sp_60 x1 σ) Q) : Ex sc CC 1 cd_60 Q 0 [some (.ref 9), some (.int x1)] [] σ := by
  have v : CC 61 [.ref 9, .int x1] σ (fun r3 σ3 => (r3 = 0 → Q 0 σ3) ∧ (¬ r3 = 0 → vp_in x1 80 ∧ (vp_in ((σ3 35 (x1).toNatClampNeg) - 1) 6 ∧ (Q (σ3 45 ((σ3 35 (x1).toNatClampNeg) - 1).toNatClampNeg) σ3)))) := cc_61 (n_bn h (fun r3 σ3 h => n_if h (fun h => n_rt h) (fun h => n_mb h (fun h => n_mb h (fun h => n_rt h)))))
  exact wpn_Ex (cuts := []) monCC (fun _ _ _ _ z => z) 17 0 _ _ _ v
-- TradeTests$Rates.cellOf
set_option maxHeartbeats 20000000 in
set_option maxRecDepth 100000 in
theorem hp_64 {sc : Nat × (Nat → Int32)} {Q : Int32 → St → Prop} {x1 : Int32} {σ : St} (h : Ap (sp_64 x1 σ) Q) : Ex sc CC 1 cd_64 Q 0 [some (.ref 7), some (.int x1), none] [] σ := by
  have v : vp_in x1 80 ∧ (vp_in x1 80 ∧ (CC 65 [.ref 1, .int (σ 24 (x1).toNatClampNeg), .int (σ 26 (x1).toNatClampNeg)] σ (fun r3 σ3 => vp_in (σ 24 (x1).toNatClampNeg) 24 ∧ (Q ((r3 * 4) + (σ3 16 (σ 24 (x1).toNatClampNeg).toNatClampNeg)) σ3)))) := n_mb h (fun h => n_mb h (fun h => cc_65 (n_bn h (fun r3 σ3 h => n_mb h (fun h => n_rt h)))))
  exact wpn_Ex (cuts := []) monCC (fun _ _ _ _ z => z) 25 0 _ _ _ v
-- TradeTests$Odometer.fall
set_option maxHeartbeats 20000000 in
set_option maxRecDepth 100000 in
theorem hp_76 {sc : Nat × (Nat → Int32)} {Q : Int32 → St → Prop} {x1 : Int32} {σ : St} (h : Ap (sp_76 x1 σ) Q) : Ex sc CC 1 cd_76 Q 0 [some (.ref 8), some (.int x1), none, none] [] σ := by
  have v : vp_in x1 80 ∧ (CC 77 [.ref 8, .int x1] σ (fun r7 σ7 => ((σ 29 (x1).toNatClampNeg) < r7 → CC 78 [.ref 8, .int x1] σ7 (fun r8 σ8 => CC 79 [.int (σ 29 (x1).toNatClampNeg), .int r7, .int r8] σ8 (fun r9 σ9 => (r9 = 0 → Q 2 σ9) ∧ (¬ r9 = 0 → Q 1 σ9)))) ∧ (¬ (σ 29 (x1).toNatClampNeg) < r7 → Q 0 σ7))) := n_mb h (fun h => cc_77 (n_bn h (fun r7 σ7 h => n_if h (fun h => cc_78 (n_bn h (fun r8 σ8 h => cc_79 (n_bn h (fun r9 σ9 h => n_if h (fun h => n_rt h) (fun h => n_rt h)))))) (fun h => n_rt h))))
  exact wpn_Ex (cuts := []) monCC (fun _ _ _ _ z => z) 24 0 _ _ _ v
-- TradeTests$Penalties.isRule
set_option maxHeartbeats 20000000 in
set_option maxRecDepth 100000 in
theorem hp_81 {sc : Nat × (Nat → Int32)} {Q : Int32 → St → Prop} {x1 x2 : Int32} {σ : St} (h : Ap (sp_81 x1 x2 σ) Q) : Ex sc CC 2 cd_81 Q 0 [some (.ref 10), some (.int x1), some (.int x2)] [] σ := by
  have v : CC 1 [.int x1, .int 3] σ (fun r3 σ3 => (r3 = 0 → ((0 : Int32) = 0 ∨ (0 : Int32) = 1) ∧ Q 0 σ3) ∧ (¬ r3 = 0 → (x2 < 1 → ((0 : Int32) = 0 ∨ (0 : Int32) = 1) ∧ Q 0 σ3) ∧ (¬ x2 < 1 → vp_in x1 3 ∧ ((((sV 2).getD (x1).toNatClampNeg 0) < x2 → ((0 : Int32) = 0 ∨ (0 : Int32) = 1) ∧ Q 0 σ3) ∧ (¬ ((sV 2).getD (x1).toNatClampNeg 0) < x2 → ((1 : Int32) = 0 ∨ (1 : Int32) = 1) ∧ Q 1 σ3))))) := cc_1 (n_bn h (fun r3 σ3 h => n_if h (fun h => n_rb h) (fun h => n_if h (fun h => n_rb h) (fun h => n_mb h (fun h => n_if h (fun h => n_rb h) (fun h => n_rb h))))))
  exact wpn_Ex (cuts := []) monCC (fun _ _ _ _ z => z) 16 0 _ _ _ v
-- TradeTests.appeal
set_option maxHeartbeats 20000000 in
set_option maxRecDepth 100000 in
theorem hp_83 {sc : Nat × (Nat → Int32)} {Q : Int32 → St → Prop} {x1 x2 : Int32} {σ : St} (h : Ap (sp_83 x1 x2 σ) Q) : Ex sc CC 1 cd_83 Q 0 [some (.ref 0), some (.int x1), some (.int x2), none] [] σ := by
  have v : CC 1 [.int x1, .int (σ 3 14)] σ (fun r9 σ9 => (r9 = 0 → CC 2 [.ref 0, .int 1] σ9 (fun r10 σ10 => Q r10 σ10)) ∧ (¬ r9 = 0 → CC 1 [.int x2, .int 2] σ9 (fun r11 σ11 => (¬ r11 = 0 → vp_in x1 80 ∧ (vp_in x1 80 ∧ (Q (σ11 34 (x1).toNatClampNeg) (up σ11 34 (x1).toNatClampNeg x2)))) ∧ (r11 = 0 → CC 2 [.ref 0, .int 1] σ11 (fun r12 σ12 => Q r12 σ12))))) := cc_1 (n_bn h (fun r9 σ9 h => n_if h (fun h => cc_2 (n_bn h (fun r10 σ10 h => n_rt h))) (fun h => cc_1 (n_bn h (fun r11 σ11 h => n_ne h (fun h => cc_2 (n_bn h (fun r12 σ12 h => n_rt h))) (fun h => n_mb h (fun h => n_mb h (fun h => n_rt h))))))))
  exact wpn_Ex (cuts := []) monCC (fun _ _ _ _ z => z) 25 0 _ _ _ v
-- TradeTests.secret
set_option maxHeartbeats 20000000 in
set_option maxRecDepth 100000 in
theorem hp_93 {sc : Nat × (Nat → Int32)} {Q : Int32 → St → Prop} {x1 : Int32} {σ : St} (h : Ap (sp_93 x1 σ) Q) : Ex sc CC 1 cd_93 Q 0 [some (.ref 0), some (.int x1)] [] σ := by
  have v : (x1 < 1 → CC 2 [.ref 0, .int 1] σ (fun r9 σ9 => Q r9 σ9)) ∧ (¬ x1 < 1 → (x1 < 256 → ((σ 9 3) < 6 → CC 94 [.ref 9, .int x1] σ (fun r10 σ10 => Q r10 σ10)) ∧ (¬ (σ 9 3) < 6 → CC 2 [.ref 0, .int 4] σ (fun r11 σ11 => Q r11 σ11))) ∧ (¬ x1 < 256 → CC 2 [.ref 0, .int 1] σ (fun r12 σ12 => Q r12 σ12))) := n_if h (fun h => cc_2 (n_bn h (fun r9 σ9 h => n_rt h))) (fun h => n_if h (fun h => n_if h (fun h => cc_94 (n_bn h (fun r10 σ10 h => n_rt h))) (fun h => cc_2 (n_bn h (fun r11 σ11 h => n_rt h)))) (fun h => cc_2 (n_bn h (fun r12 σ12 h => n_rt h))))
  exact wpn_Ex (cuts := []) monCC (fun _ _ _ _ z => z) 17 0 _ _ _ v
-- TradeTests$Plan.newFaults
set_option maxHeartbeats 20000000 in
set_option maxRecDepth 100000 in
theorem hp_99 {sc : Nat × (Nat → Int32)} {Q : Int32 → St → Prop} {x1 : Int32} {σ : St} (h : Ap (sp_99 x1 σ) Q) : Ex sc CC 1 cd_99 Q 0 [some (.ref 11), some (.int x1)] [] σ := by
  have v : vp_in x1 6 ∧ (CC 59 [.int ((σ 45 (x1).toNatClampNeg) &&& ((σ 11 7) ^^^ (-1)))] σ (fun r3 σ3 => Q r3 σ3)) := n_mb h (fun h => cc_59 (n_bn h (fun r3 σ3 h => n_rt h)))
  exact wpn_Ex (cuts := []) monCC (fun _ _ _ _ z => z) 13 0 _ _ _ v
-- TradeTests$Plan.mostFrom
set_option maxHeartbeats 20000000 in
set_option maxRecDepth 100000 in
theorem hl_103_17 {sc : Nat × (Nat → Int32)} {Q : Int32 → St → Prop} : ∀ (n : Nat) (v1 : Int32) (v2 : Int32) (v3 : Int32) (v4 : Int32) (σ : St), Ap (lp_103_17 n v1 v2 v3 v4 σ) Q → Ex sc CC 1 cd_103 Q 17 [some (.ref 11), some (.int v1), some (.int v2), some (.int v3), some (.int v4)] [] σ := by
  intro n
  induction n with
  | zero => intro v1 v2 v3 v4 σ h; exact n_no h
  | succ n ih =>
    intro v1 v2 v3 v4 σ h
    have v : ((σ 2 2) ≤ v4 → Q v3 σ) ∧ (¬ (σ 2 2) ≤ v4 → CC 104 [.int v2, .int v4] σ (fun r5 σ5 => (r5 = 0 → Ex sc CC 1 cd_103 Q 17 [some (.ref 11), some (.int v1), some (.int v2), some (.int v3), some (.int (v4 + 1))] [] σ5) ∧ (¬ r5 = 0 → CC 105 [.ref 11, .int v1, .int v4, .int v2] σ5 (fun r6 σ6 => Ex sc CC 1 cd_103 Q 17 [some (.ref 11), some (.int v1), some (.int v2), some (.int (maxI v3 r6)), some (.int (v4 + 1))] [] σ6)))) := n_if h (fun h => n_rt h) (fun h => cc_104 (n_bn h (fun r5 σ5 h => n_if h (fun h => ih v1 v2 v3 (v4 + 1) σ5 h) (fun h => cc_105 (n_bn h (fun r6 σ6 h => ih v1 v2 (maxI v3 r6) (v4 + 1) σ6 h))))))
    exact stw_Ex (cuts := [17]) monCC 20 v
set_option maxHeartbeats 20000000 in
set_option maxRecDepth 100000 in
theorem hp_103 {sc : Nat × (Nat → Int32)} {Q : Int32 → St → Prop} {x1 x2 : Int32} {σ : St} (h : Ap (sp_103 x1 x2 σ) Q) : Ex sc CC 1 cd_103 Q 0 [some (.ref 11), some (.int x1), some (.int x2), none, none] [] σ := by
  have v : vp_in (((x1 + 1) * 64) + x2) 448 ∧ (Ex sc CC 1 cd_103 Q 17 [some (.ref 11), some (.int x1), some (.int x2), some (.int (σ 49 (((x1 + 1) * 64) + x2).toNatClampNeg)), some (.int 0)] [] σ) := n_mb h (fun h => hl_103_17 FU x1 x2 (σ 49 (((x1 + 1) * 64) + x2).toNatClampNeg) 0 σ h)
  exact wpn_Ex (cuts := [17]) monCC (fun _ _ _ _ z => z) 15 0 _ _ _ v
-- TradeTests$Plan.leastGarage
set_option maxHeartbeats 20000000 in
set_option maxRecDepth 100000 in
theorem hl_109_2 {sc : Nat × (Nat → Int32)} {Q : Int32 → St → Prop} : ∀ (n : Nat) (v1 : Int32) (v2 : Int32) (v3 : Int32) (σ : St), Ap (lp_109_2 n v1 v2 v3 σ) Q → Ex sc CC 1 cd_109 Q 2 [some (.ref 11), some (.int v1), some (.int v2), some (.int v3)] [] σ := by
  intro n
  induction n with
  | zero => intro v1 v2 v3 σ h; exact n_no h
  | succ n ih =>
    intro v1 v2 v3 σ h
    have v : ((σ 2 2) ≤ v3 → Q (-1) σ) ∧ (¬ (σ 2 2) ≤ v3 → CC 104 [.int v2, .int v3] σ (fun r5 σ5 => (r5 = 0 → Ex sc CC 1 cd_109 Q 2 [some (.ref 11), some (.int v1), some (.int v2), some (.int (v3 + 1))] [] σ5) ∧ (¬ r5 = 0 → CC 105 [.ref 11, .int v1, .int v3, .int v2] σ5 (fun r6 σ6 => vp_in ((v1 * 64) + v2) 448 ∧ ((¬ r6 = (σ6 49 ((v1 * 64) + v2).toNatClampNeg) → Ex sc CC 1 cd_109 Q 2 [some (.ref 11), some (.int v1), some (.int v2), some (.int (v3 + 1))] [] σ6) ∧ (r6 = (σ6 49 ((v1 * 64) + v2).toNatClampNeg) → Q v3 σ6)))))) := n_if h (fun h => n_rt h) (fun h => cc_104 (n_bn h (fun r5 σ5 h => n_if h (fun h => ih v1 v2 (v3 + 1) σ5 h) (fun h => cc_105 (n_bn h (fun r6 σ6 h => n_mb h (fun h => n_ne h (fun h => n_rt h) (fun h => ih v1 v2 (v3 + 1) σ6 h))))))))
    exact stw_Ex (cuts := [2]) monCC 26 v
set_option maxHeartbeats 20000000 in
set_option maxRecDepth 100000 in
theorem hp_109 {sc : Nat × (Nat → Int32)} {Q : Int32 → St → Prop} {x1 x2 : Int32} {σ : St} (h : Ap (sp_109 x1 x2 σ) Q) : Ex sc CC 1 cd_109 Q 0 [some (.ref 11), some (.int x1), some (.int x2), none] [] σ := by
  have v : Ex sc CC 1 cd_109 Q 2 [some (.ref 11), some (.int x1), some (.int x2), some (.int 0)] [] σ := hl_109_2 FU x1 x2 0 σ h
  exact wpn_Ex (cuts := [2]) monCC (fun _ _ _ _ z => z) 4 0 _ _ _ v
-- TradeTests.draw
set_option maxHeartbeats 20000000 in
set_option maxRecDepth 100000 in
theorem hp_110 {sc : Nat × (Nat → Int32)} {Q : Int32 → St → Prop} {x1 x2 x3 : Int32} {σ : St} (h : Ap (sp_110 x1 x2 x3 σ) Q) : Ex sc CC 1 cd_110 Q 0 [some (.ref 0), some (.int x1), some (.int x2), some (.int x3)] [] σ := by
  have v : CC 1 [.int x1, .int (σ 3 14)] σ (fun r19 σ19 => (r19 = 0 → CC 2 [.ref 0, .int 1] σ19 (fun r20 σ20 => Q r20 σ20)) ∧ (¬ r19 = 0 → (x2 < 1 → CC 2 [.ref 0, .int 1] σ19 (fun r21 σ21 => Q r21 σ21)) ∧ (¬ x2 < 1 → (100 < x2 → CC 2 [.ref 0, .int 1] σ19 (fun r22 σ22 => Q r22 σ22)) ∧ (¬ 100 < x2 → CC 1 [.int x3, .int 2] σ19 (fun r23 σ23 => (¬ r23 = 0 → CC 111 [.ref 3, .int x1] σ23 (fun r24 σ24 => (r24 = 0 → CC 112 [.ref 3, .int x1, .int x2, .int x3] σ24 (fun r25 σ25 => Q r25 σ25)) ∧ (¬ r24 = 0 → CC 2 [.ref 0, .int 3] σ24 (fun r26 σ26 => Q r26 σ26)))) ∧ (r23 = 0 → CC 2 [.ref 0, .int 1] σ23 (fun r27 σ27 => Q r27 σ27))))))) := cc_1 (n_bn h (fun r19 σ19 h => n_if h (fun h => cc_2 (n_bn h (fun r20 σ20 h => n_rt h))) (fun h => n_if h (fun h => cc_2 (n_bn h (fun r21 σ21 h => n_rt h))) (fun h => n_if h (fun h => cc_2 (n_bn h (fun r22 σ22 h => n_rt h))) (fun h => cc_1 (n_bn h (fun r23 σ23 h => n_ne h (fun h => cc_2 (n_bn h (fun r27 σ27 h => n_rt h))) (fun h => cc_111 (n_bn h (fun r24 σ24 h => n_if h (fun h => cc_112 (n_bn h (fun r25 σ25 h => n_rt h))) (fun h => cc_2 (n_bn h (fun r26 σ26 h => n_rt h)))))))))))))
  exact wpn_Ex (cuts := []) monCC (fun _ _ _ _ z => z) 29 0 _ _ _ v
-- TradeTests.error
set_option maxHeartbeats 20000000 in
set_option maxRecDepth 100000 in
theorem hp_113 {sc : Nat × (Nat → Int32)} {Q : Int32 → St → Prop}  {σ : St} (h : Ap (sp_113  σ) Q) : Ex sc CC 1 cd_113 Q 0 [some (.ref 0), none] [] σ := by
  have v : CC 114 [.ref 3] σ (fun r5 σ5 => (0 ≤ r5 → Q r5 σ5) ∧ (¬ 0 ≤ r5 → CC 2 [.ref 0, .int 2] σ5 (fun r6 σ6 => Q r6 σ6))) := cc_114 (n_bn h (fun r5 σ5 h => n_if h (fun h => n_rt h) (fun h => cc_2 (n_bn h (fun r6 σ6 h => n_rt h)))))
  exact wpn_Ex (cuts := []) monCC (fun _ _ _ _ z => z) 12 0 _ _ _ v
-- TradeTests.tell
set_option maxHeartbeats 20000000 in
set_option maxRecDepth 100000 in
theorem hp_117 {sc : Nat × (Nat → Int32)} {Q : Int32 → St → Prop} {x1 : Int32} {σ : St} (h : Ap (sp_117 x1 σ) Q) : Ex sc CC 1 cd_117 Q 0 [some (.ref 0), some (.int x1)] [] σ := by
  have v : ((σ 0 12) < 8 → vp_in (σ 0 12) 8 ∧ (Q ((σ 0 12) + 1) (up (up σ 13 (σ 0 12).toNatClampNeg x1) 0 12 ((σ 0 12) + 1)))) ∧ (¬ (σ 0 12) < 8 → CC 2 [.ref 0, .int 4] σ (fun r3 σ3 => Q r3 σ3)) := n_if h (fun h => n_mb h (fun h => n_rt h)) (fun h => cc_2 (n_bn h (fun r3 σ3 h => n_rt h)))
  exact wpn_Ex (cuts := []) monCC (fun _ _ _ _ z => z) 20 0 _ _ _ v
-- TradeTests.found
set_option maxHeartbeats 20000000 in
set_option maxRecDepth 100000 in
theorem hp_121 {sc : Nat × (Nat → Int32)} {Q : Int32 → St → Prop} {x1 : Int32} {σ : St} (h : Ap (sp_121 x1 σ) Q) : Ex sc CC 1 cd_121 Q 0 [some (.ref 0), some (.int x1)] [] σ := by
  have v : (x1 < 1 → CC 2 [.ref 0, .int 1] σ (fun r5 σ5 => Q r5 σ5)) ∧ (¬ x1 < 1 → (x1 ≤ 5 → vp_in x1 6 ∧ (Q (σ 14 (x1).toNatClampNeg) σ)) ∧ (¬ x1 ≤ 5 → CC 2 [.ref 0, .int 1] σ (fun r6 σ6 => Q r6 σ6))) := n_if h (fun h => cc_2 (n_bn h (fun r5 σ5 h => n_rt h))) (fun h => n_if h (fun h => n_mb h (fun h => n_rt h)) (fun h => cc_2 (n_bn h (fun r6 σ6 h => n_rt h))))
  exact wpn_Ex (cuts := []) monCC (fun _ _ _ _ z => z) 12 0 _ _ _ v
-- TradeTestsModel.isDay
set_option maxHeartbeats 20000000 in
set_option maxRecDepth 100000 in
theorem hp_124 {sc : Nat × (Nat → Int32)} {Q : Int32 → St → Prop} {x1 : Int32} {σ : St} (h : Ap (sp_124 x1 σ) Q) : Ex sc CC 2 cd_124 Q 0 [some (.int x1)] [] σ := by
  have v : CC 123 [.int x1, .int 0, .int 9999] σ (fun r3 σ3 => (r3 = 0 ∨ r3 = 1) ∧ Q r3 σ3) := cc_123 (n_bn h (fun r3 σ3 h => n_rb h))
  exact wpn_Ex (cuts := []) monCC (fun _ _ _ _ z => z) 6 0 _ _ _ v
-- TradeTestsModel.isVehicle
set_option maxHeartbeats 20000000 in
set_option maxRecDepth 100000 in
theorem hp_127 {sc : Nat × (Nat → Int32)} {Q : Int32 → St → Prop} {x1 : Int32} {σ : St} (h : Ap (sp_127 x1 σ) Q) : Ex sc CC 2 cd_127 Q 0 [some (.ref 12), some (.int x1)] [] σ := by
  have v : CC 123 [.int x1, .int 0, .int ((σ 12 0) - 1)] σ (fun r3 σ3 => (r3 = 0 ∨ r3 = 1) ∧ Q r3 σ3) := cc_123 (n_bn h (fun r3 σ3 h => n_rb h))
  exact wpn_Ex (cuts := []) monCC (fun _ _ _ _ z => z) 9 0 _ _ _ v
-- TradeTestsModel.garage
set_option maxHeartbeats 20000000 in
set_option maxRecDepth 100000 in
theorem hp_130 {sc : Nat × (Nat → Int32)} {Q : Int32 → St → Prop} {x1 x2 : Int32} {σ : St} (h : Ap (sp_130 x1 x2 σ) Q) : Ex sc CC 1 cd_130 Q 0 [some (.ref 12), some (.int x1), some (.int x2)] [] σ := by
  have v : CC 123 [.int x1, .int 0, .int 1439] σ (fun r11 σ11 => (r11 = 0 → CC 125 [.ref 12, .int 1] σ11 (fun r12 σ12 => Q r12 σ12)) ∧ (¬ r11 = 0 → CC 123 [.int x2, .int (x1 + 1), .int 1440] σ11 (fun r13 σ13 => (¬ r13 = 0 → (¬ (σ13 12 1) = 6 → vp_in (σ13 12 1) 6 ∧ (vp_in (σ13 12 1) 6 ∧ (Q (((σ13 12 1) + 1) - 1) (up (up (up σ13 53 (σ13 12 1).toNatClampNeg x1) 54 (σ13 12 1).toNatClampNeg x2) 12 1 ((σ13 12 1) + 1))))) ∧ ((σ13 12 1) = 6 → CC 125 [.ref 12, .int 4] σ13 (fun r14 σ14 => Q r14 σ14))) ∧ (r13 = 0 → CC 125 [.ref 12, .int 1] σ13 (fun r15 σ15 => Q r15 σ15))))) := cc_123 (n_bn h (fun r11 σ11 h => n_if h (fun h => cc_125 (n_bn h (fun r12 σ12 h => n_rt h))) (fun h => cc_123 (n_bn h (fun r13 σ13 h => n_ne h (fun h => cc_125 (n_bn h (fun r15 σ15 h => n_rt h))) (fun h => n_ne h (fun h => cc_125 (n_bn h (fun r14 σ14 h => n_rt h))) (fun h => n_mb h (fun h => n_mb h (fun h => n_rt h)))))))))
  exact wpn_Ex (cuts := []) monCC (fun _ _ _ _ z => z) 40 0 _ _ _ v
-- TradeTestsModel.isGarage
set_option maxHeartbeats 20000000 in
set_option maxRecDepth 100000 in
theorem hp_132 {sc : Nat × (Nat → Int32)} {Q : Int32 → St → Prop} {x1 : Int32} {σ : St} (h : Ap (sp_132 x1 σ) Q) : Ex sc CC 2 cd_132 Q 0 [some (.ref 12), some (.int x1)] [] σ := by
  have v : CC 123 [.int x1, .int 0, .int ((σ 12 1) - 1)] σ (fun r3 σ3 => (r3 = 0 ∨ r3 = 1) ∧ Q r3 σ3) := cc_123 (n_bn h (fun r3 σ3 h => n_rb h))
  exact wpn_Ex (cuts := []) monCC (fun _ _ _ _ z => z) 9 0 _ _ _ v
-- TradeTestsModel.isTester
set_option maxHeartbeats 20000000 in
set_option maxRecDepth 100000 in
theorem hp_134 {sc : Nat × (Nat → Int32)} {Q : Int32 → St → Prop} {x1 : Int32} {σ : St} (h : Ap (sp_134 x1 σ) Q) : Ex sc CC 2 cd_134 Q 0 [some (.ref 12), some (.int x1)] [] σ := by
  have v : CC 123 [.int x1, .int 0, .int ((σ 12 2) - 1)] σ (fun r3 σ3 => (r3 = 0 ∨ r3 = 1) ∧ Q r3 σ3) := cc_123 (n_bn h (fun r3 σ3 h => n_rb h))
  exact wpn_Ex (cuts := []) monCC (fun _ _ _ _ z => z) 9 0 _ _ _ v
-- TradeTestsModel.isTest
set_option maxHeartbeats 20000000 in
set_option maxRecDepth 100000 in
theorem hp_140 {sc : Nat × (Nat → Int32)} {Q : Int32 → St → Prop} {x1 : Int32} {σ : St} (h : Ap (sp_140 x1 σ) Q) : Ex sc CC 2 cd_140 Q 0 [some (.ref 12), some (.int x1)] [] σ := by
  have v : CC 123 [.int x1, .int 0, .int ((σ 12 4) - 1)] σ (fun r3 σ3 => (r3 = 0 ∨ r3 = 1) ∧ Q r3 σ3) := cc_123 (n_bn h (fun r3 σ3 h => n_rb h))
  exact wpn_Ex (cuts := []) monCC (fun _ _ _ _ z => z) 9 0 _ _ _ v
-- TradeTestsModel.garageOf
set_option maxHeartbeats 20000000 in
set_option maxRecDepth 100000 in
theorem hp_141 {sc : Nat × (Nat → Int32)} {Q : Int32 → St → Prop} {x1 : Int32} {σ : St} (h : Ap (sp_141 x1 σ) Q) : Ex sc CC 1 cd_141 Q 0 [some (.ref 12), some (.int x1)] [] σ := by
  have v : vp_in x1 80 ∧ (vp_in x1 80 ∧ (CC 135 [.ref 12, .int (σ 60 (x1).toNatClampNeg), .int (σ 61 (x1).toNatClampNeg)] σ (fun r3 σ3 => Q r3 σ3))) := n_mb h (fun h => n_mb h (fun h => cc_135 (n_bn h (fun r3 σ3 h => n_rt h))))
  exact wpn_Ex (cuts := []) monCC (fun _ _ _ _ z => z) 12 0 _ _ _ v
-- TradeTestsModel.feed
set_option maxHeartbeats 20000000 in
set_option maxRecDepth 100000 in
theorem hp_142 {sc : Nat × (Nat → Int32)} {Q : Int32 → St → Prop} {x1 : Int32} {σ : St} (h : Ap (sp_142 x1 σ) Q) : Ex sc CC 1 cd_142 Q 0 [some (.ref 12), some (.int x1)] [] σ := by
  have v : CC 123 [.int x1, .int 0, .int 255] σ (fun r7 σ7 => (¬ r7 = 0 → (¬ (σ7 12 9) = 60 → vp_in (σ7 12 9) 60 ∧ (Q ((σ7 12 9) + 1) (up (up σ7 78 (σ7 12 9).toNatClampNeg x1) 12 9 ((σ7 12 9) + 1)))) ∧ ((σ7 12 9) = 60 → CC 125 [.ref 12, .int 4] σ7 (fun r8 σ8 => Q r8 σ8))) ∧ (r7 = 0 → CC 125 [.ref 12, .int 1] σ7 (fun r9 σ9 => Q r9 σ9))) := cc_123 (n_bn h (fun r7 σ7 h => n_ne h (fun h => cc_125 (n_bn h (fun r9 σ9 h => n_rt h))) (fun h => n_ne h (fun h => cc_125 (n_bn h (fun r8 σ8 h => n_rt h))) (fun h => n_mb h (fun h => n_rt h)))))
  exact wpn_Ex (cuts := []) monCC (fun _ _ _ _ z => z) 25 0 _ _ _ v
-- TradeTestsModel.readsFault
set_option maxHeartbeats 20000000 in
set_option maxRecDepth 100000 in
theorem hl_146_124 {sc : Nat × (Nat → Int32)} {Q : Int32 → St → Prop} : ∀ (n : Nat) (v1 : Int32) (v2 : Int32) (v3 : Int32) (v4 : Int32) (σ : St), Ap (lp_146_124 n v1 v2 v3 v4 σ) Q → Ex sc CC 2 cd_146 Q 124 [some (.ref 12), some (.int v1), some (.int v2), some (.int v3), some (.int v4)] [] σ := by
  intro n
  induction n with
  | zero => intro v1 v2 v3 v4 σ h; exact n_no h
  | succ n ih =>
    intro v1 v2 v3 v4 σ h
    have v : (4 ≤ v4 → ((1 : Int32) = 0 ∨ (1 : Int32) = 1) ∧ Q 1 σ) ∧ (¬ 4 ≤ v4 → vp_in (((4 : Int32) * v1) + v4) 28 ∧ (CC 128 [.int v4, .int v3] σ (fun r17 σ17 => (r17 = 0 → vp_in (((4 : Int32) * v1) + v4) 28 ∧ (Ex sc CC 2 cd_146 Q 124 [some (.ref 12), some (.int v1), some (.int v2), some (.int v3), some (.int (v4 + 1))] [] (up σ17 76 (((4 : Int32) * v1) + v4).toNatClampNeg ((σ 76 (((4 : Int32) * v1) + v4).toNatClampNeg) ||| 0)))) ∧ (¬ r17 = 0 → vp_in (((4 : Int32) * v1) + v4) 28 ∧ (Ex sc CC 2 cd_146 Q 124 [some (.ref 12), some (.int v1), some (.int v2), some (.int v3), some (.int (v4 + 1))] [] (up σ17 76 (((4 : Int32) * v1) + v4).toNatClampNeg ((σ 76 (((4 : Int32) * v1) + v4).toNatClampNeg) ||| ((1 : Int32) <<< (v2 &&& 31))))))))) := n_if h (fun h => n_rb h) (fun h => n_mb h (fun h => cc_128 (n_bn h (fun r17 σ17 h => n_if h (fun h => n_mb h (fun h => ih v1 v2 v3 (v4 + 1) (up σ17 76 (((4 : Int32) * v1) + v4).toNatClampNeg ((σ 76 (((4 : Int32) * v1) + v4).toNatClampNeg) ||| 0)) h)) (fun h => n_mb h (fun h => ih v1 v2 v3 (v4 + 1) (up σ17 76 (((4 : Int32) * v1) + v4).toNatClampNeg ((σ 76 (((4 : Int32) * v1) + v4).toNatClampNeg) ||| ((1 : Int32) <<< (v2 &&& 31)))) h))))))
    exact stw_Ex (cuts := [84, 124]) monCC 25 v
set_option maxHeartbeats 20000000 in
set_option maxRecDepth 100000 in
theorem hl_146_84 {sc : Nat × (Nat → Int32)} {Q : Int32 → St → Prop} : ∀ (v1 : Int32) (v2 : Int32) (v3 : Int32) (σ : St), Ap (lp_146_84 v1 v2 v3 σ) Q → Ex sc CC 2 cd_146 Q 84 [some (.ref 12), some (.int v1), some (.int v2), some (.int v3), none] [] σ := by
  intro v1 v2 v3 σ h
  have v : (0 ≤ v3 → CC 145 [.ref 12] (up σ 12 45 ((σ 12 45) + 1)) (fun r18 σ18 => (r18 = 59 → Ex sc CC 2 cd_146 Q 124 [some (.ref 12), some (.int v1), some (.int v2), some (.int v3), some (.int 0)] [] (up σ18 12 45 ((σ18 12 45) + 1))) ∧ (¬ r18 = 59 → ((0 : Int32) = 0 ∨ (0 : Int32) = 1) ∧ Q 0 σ18))) ∧ (¬ 0 ≤ v3 → ((0 : Int32) = 0 ∨ (0 : Int32) = 1) ∧ Q 0 σ) := n_if h (fun h => cc_145 (n_bn h (fun r18 σ18 h => n_if h (fun h => hl_146_124 FU v1 v2 v3 0 (up σ18 12 45 ((σ18 12 45) + 1)) h) (fun h => n_rb h)))) (fun h => n_rb h)
  exact stw_Ex (cuts := [84, 124]) monCC 21 v
set_option maxHeartbeats 20000000 in
set_option maxRecDepth 100000 in
theorem hp_146 {sc : Nat × (Nat → Int32)} {Q : Int32 → St → Prop} {x1 : Int32} {σ : St} (h : Ap (sp_146 x1 σ) Q) : Ex sc CC 2 cd_146 Q 0 [some (.ref 12), some (.int x1), none, none, none] [] σ := by
  have v : CC 145 [.ref 12] σ (fun r19 σ19 => CC 123 [.int (r19 - 48), .int 0, .int 7] σ19 (fun r20 σ20 => (¬ r20 = 0 → CC 145 [.ref 12] (up σ20 12 45 ((σ20 12 45) + 1)) (fun r21 σ21 => (¬ r21 = 118 → CC 145 [.ref 12] σ21 (fun r22 σ22 => (¬ r22 = 99 → CC 145 [.ref 12] σ22 (fun r23 σ23 => (¬ r23 = 116 → CC 145 [.ref 12] σ23 (fun r24 σ24 => (¬ r24 = 114 → Ex sc CC 2 cd_146 Q 84 [some (.ref 12), some (.int x1), some (.int (r19 - 48)), some (.int (-1)), none] [] σ24) ∧ (r24 = 114 → Ex sc CC 2 cd_146 Q 84 [some (.ref 12), some (.int x1), some (.int (r19 - 48)), some (.int 3), none] [] σ24))) ∧ (r23 = 116 → Ex sc CC 2 cd_146 Q 84 [some (.ref 12), some (.int x1), some (.int (r19 - 48)), some (.int 2), none] [] σ23))) ∧ (r22 = 99 → Ex sc CC 2 cd_146 Q 84 [some (.ref 12), some (.int x1), some (.int (r19 - 48)), some (.int 1), none] [] σ22))) ∧ (r21 = 118 → Ex sc CC 2 cd_146 Q 84 [some (.ref 12), some (.int x1), some (.int (r19 - 48)), some (.int 0), none] [] σ21))) ∧ (r20 = 0 → ((0 : Int32) = 0 ∨ (0 : Int32) = 1) ∧ Q 0 σ20))) := cc_145 (n_bn h (fun r19 σ19 h => cc_123 (n_bn h (fun r20 σ20 h => n_ne h (fun h => n_rb h) (fun h => cc_145 (n_bn h (fun r21 σ21 h => n_ne h (fun h => hl_146_84 x1 (r19 - 48) 0 σ21 h) (fun h => cc_145 (n_bn h (fun r22 σ22 h => n_ne h (fun h => hl_146_84 x1 (r19 - 48) 1 σ22 h) (fun h => cc_145 (n_bn h (fun r23 σ23 h => n_ne h (fun h => hl_146_84 x1 (r19 - 48) 2 σ23 h) (fun h => cc_145 (n_bn h (fun r24 σ24 h => n_ne h (fun h => hl_146_84 x1 (r19 - 48) 3 σ24 h) (fun h => hl_146_84 x1 (r19 - 48) (-1) σ24 h)))))))))))))))))
  exact wpn_Ex (cuts := [84, 124]) monCC (fun _ _ _ _ z => z) 37 0 _ _ _ v
-- TradeTestsModel.readsNumber
set_option maxHeartbeats 20000000 in
set_option maxRecDepth 100000 in
theorem hl_147_4 {sc : Nat × (Nat → Int32)} {Q : Int32 → St → Prop} : ∀ (n : Nat) (v1 : Int32) (v2 : Int32) (v3 : Int32) (σ : St), Ap (lp_147_4 n v1 v2 v3 σ) Q → Ex sc CC 1 cd_147 Q 4 [some (.ref 12), some (.int v1), some (.int v2), some (.int v3)] [] σ := by
  intro n
  induction n with
  | zero => intro v1 v2 v3 σ h; exact n_no h
  | succ n ih =>
    intro v1 v2 v3 σ h
    have v : (v1 ≤ v3 → (v3 = 0 → Q (-1) σ) ∧ (¬ v3 = 0 → CC 145 [.ref 12] σ (fun r11 σ11 => (r11 = 59 → Q v2 (up σ11 12 45 ((σ11 12 45) + 1))) ∧ (¬ r11 = 59 → Q (-1) σ11)))) ∧ (¬ v1 ≤ v3 → CC 145 [.ref 12] σ (fun r12 σ12 => CC 148 [.int r12] σ12 (fun r13 σ13 => (r13 = 0 → (v3 = 0 → Q (-1) σ13) ∧ (¬ v3 = 0 → CC 145 [.ref 12] σ13 (fun r14 σ14 => (r14 = 59 → Q v2 (up σ14 12 45 ((σ14 12 45) + 1))) ∧ (¬ r14 = 59 → Q (-1) σ14)))) ∧ (¬ r13 = 0 → CC 145 [.ref 12] σ13 (fun r15 σ15 => Ex sc CC 1 cd_147 Q 4 [some (.ref 12), some (.int v1), some (.int ((((10 : Int32) * v2) + r15) - 48)), some (.int (v3 + 1))] [] (up σ15 12 45 ((σ15 12 45) + 1))))))) := n_if h (fun h => n_if h (fun h => n_rt h) (fun h => cc_145 (n_bn h (fun r11 σ11 h => n_if h (fun h => n_rt h) (fun h => n_rt h))))) (fun h => cc_145 (n_bn h (fun r12 σ12 h => cc_148 (n_bn h (fun r13 σ13 h => n_if h (fun h => n_if h (fun h => n_rt h) (fun h => cc_145 (n_bn h (fun r14 σ14 h => n_if h (fun h => n_rt h) (fun h => n_rt h))))) (fun h => cc_145 (n_bn h (fun r15 σ15 h => ih v1 ((((10 : Int32) * v2) + r15) - 48) (v3 + 1) (up σ15 12 45 ((σ15 12 45) + 1)) h))))))))
    exact stw_Ex (cuts := [4]) monCC 25 v
set_option maxHeartbeats 20000000 in
set_option maxRecDepth 100000 in
theorem hp_147 {sc : Nat × (Nat → Int32)} {Q : Int32 → St → Prop} {x1 : Int32} {σ : St} (h : Ap (sp_147 x1 σ) Q) : Ex sc CC 1 cd_147 Q 0 [some (.ref 12), some (.int x1), none, none] [] σ := by
  have v : Ex sc CC 1 cd_147 Q 4 [some (.ref 12), some (.int x1), some (.int 0), some (.int 0)] [] σ := hl_147_4 FU x1 0 0 σ h
  exact wpn_Ex (cuts := [4]) monCC (fun _ _ _ _ z => z) 6 0 _ _ _ v
-- TradeTestsModel.isPass
set_option maxHeartbeats 20000000 in
set_option maxRecDepth 100000 in
theorem hp_152 {sc : Nat × (Nat → Int32)} {Q : Int32 → St → Prop} {x1 : Int32} {σ : St} (h : Ap (sp_152 x1 σ) Q) : Ex sc CC 2 cd_152 Q 0 [some (.ref 12), some (.int x1), none, none, none, none] [] σ := by
  have v : vp_in x1 80 ∧ (CC 150 [.ref 12, .int (σ 61 (x1).toNatClampNeg)] σ (fun r3 σ3 => vp_in x1 80 ∧ (vp_in (σ3 59 (x1).toNatClampNeg) 24 ∧ ((0 ≤ r3 → vp_in x1 80 ∧ (vp_in (((4 : Int32) * r3) + (σ3 50 (σ3 59 (x1).toNatClampNeg).toNatClampNeg)) 28 ∧ ((((σ3 67 (x1).toNatClampNeg) &&& (σ3 76 (((4 : Int32) * r3) + (σ3 50 (σ3 59 (x1).toNatClampNeg).toNatClampNeg)).toNatClampNeg)) = 0 → (¬ (σ3 50 (σ3 59 (x1).toNatClampNeg).toNatClampNeg) = 3 → vp_in x1 80 ∧ (vp_in x1 80 ∧ (((σ3 66 (x1).toNatClampNeg) ≤ (σ3 65 (x1).toNatClampNeg) → vp_in x1 80 ∧ (vp_in x1 80 ∧ (vp_in x1 80 ∧ (((σ3 66 (x1).toNatClampNeg) ≤ (σ3 65 (x1).toNatClampNeg) → vp_in x1 80 ∧ (vp_in r3 7 ∧ (((σ3 66 (x1).toNatClampNeg) < (σ3 74 (r3).toNatClampNeg) → ((0 : Int32) = 0 ∨ (0 : Int32) = 1) ∧ Q 0 σ3) ∧ (¬ (σ3 66 (x1).toNatClampNeg) < (σ3 74 (r3).toNatClampNeg) → vp_in r3 7 ∧ ((((100 : Int32) * (σ3 66 (x1).toNatClampNeg)) < (((100 : Int32) - (σ3 75 (r3).toNatClampNeg)) * (σ3 65 (x1).toNatClampNeg)) → ((0 : Int32) = 0 ∨ (0 : Int32) = 1) ∧ Q 0 σ3) ∧ (¬ ((100 : Int32) * (σ3 66 (x1).toNatClampNeg)) < (((100 : Int32) - (σ3 75 (r3).toNatClampNeg)) * (σ3 65 (x1).toNatClampNeg)) → ((1 : Int32) = 0 ∨ (1 : Int32) = 1) ∧ Q 1 σ3)))))) ∧ (¬ (σ3 66 (x1).toNatClampNeg) ≤ (σ3 65 (x1).toNatClampNeg) → vp_in x1 80 ∧ (vp_in r3 7 ∧ (((σ3 66 (x1).toNatClampNeg) < (σ3 74 (r3).toNatClampNeg) → ((0 : Int32) = 0 ∨ (0 : Int32) = 1) ∧ Q 0 σ3) ∧ (¬ (σ3 66 (x1).toNatClampNeg) < (σ3 74 (r3).toNatClampNeg) → vp_in r3 7 ∧ ((((100 : Int32) * (σ3 66 (x1).toNatClampNeg)) < (((100 : Int32) - (σ3 75 (r3).toNatClampNeg)) * (σ3 66 (x1).toNatClampNeg)) → ((0 : Int32) = 0 ∨ (0 : Int32) = 1) ∧ Q 0 σ3) ∧ (¬ ((100 : Int32) * (σ3 66 (x1).toNatClampNeg)) < (((100 : Int32) - (σ3 75 (r3).toNatClampNeg)) * (σ3 66 (x1).toNatClampNeg)) → ((1 : Int32) = 0 ∨ (1 : Int32) = 1) ∧ Q 1 σ3)))))))))) ∧ (¬ (σ3 66 (x1).toNatClampNeg) ≤ (σ3 65 (x1).toNatClampNeg) → vp_in x1 80 ∧ (vp_in x1 80 ∧ (vp_in x1 80 ∧ (((σ3 66 (x1).toNatClampNeg) ≤ (σ3 65 (x1).toNatClampNeg) → vp_in x1 80 ∧ (vp_in r3 7 ∧ (((σ3 65 (x1).toNatClampNeg) < (σ3 74 (r3).toNatClampNeg) → ((0 : Int32) = 0 ∨ (0 : Int32) = 1) ∧ Q 0 σ3) ∧ (¬ (σ3 65 (x1).toNatClampNeg) < (σ3 74 (r3).toNatClampNeg) → vp_in r3 7 ∧ ((((100 : Int32) * (σ3 65 (x1).toNatClampNeg)) < (((100 : Int32) - (σ3 75 (r3).toNatClampNeg)) * (σ3 65 (x1).toNatClampNeg)) → ((0 : Int32) = 0 ∨ (0 : Int32) = 1) ∧ Q 0 σ3) ∧ (¬ ((100 : Int32) * (σ3 65 (x1).toNatClampNeg)) < (((100 : Int32) - (σ3 75 (r3).toNatClampNeg)) * (σ3 65 (x1).toNatClampNeg)) → ((1 : Int32) = 0 ∨ (1 : Int32) = 1) ∧ Q 1 σ3)))))) ∧ (¬ (σ3 66 (x1).toNatClampNeg) ≤ (σ3 65 (x1).toNatClampNeg) → vp_in x1 80 ∧ (vp_in r3 7 ∧ (((σ3 65 (x1).toNatClampNeg) < (σ3 74 (r3).toNatClampNeg) → ((0 : Int32) = 0 ∨ (0 : Int32) = 1) ∧ Q 0 σ3) ∧ (¬ (σ3 65 (x1).toNatClampNeg) < (σ3 74 (r3).toNatClampNeg) → vp_in r3 7 ∧ ((((100 : Int32) * (σ3 65 (x1).toNatClampNeg)) < (((100 : Int32) - (σ3 75 (r3).toNatClampNeg)) * (σ3 66 (x1).toNatClampNeg)) → ((0 : Int32) = 0 ∨ (0 : Int32) = 1) ∧ Q 0 σ3) ∧ (¬ ((100 : Int32) * (σ3 65 (x1).toNatClampNeg)) < (((100 : Int32) - (σ3 75 (r3).toNatClampNeg)) * (σ3 66 (x1).toNatClampNeg)) → ((1 : Int32) = 0 ∨ (1 : Int32) = 1) ∧ Q 1 σ3))))))))))))) ∧ ((σ3 50 (σ3 59 (x1).toNatClampNeg).toNatClampNeg) = 3 → ((1 : Int32) = 0 ∨ (1 : Int32) = 1) ∧ Q 1 σ3)) ∧ (¬ ((σ3 67 (x1).toNatClampNeg) &&& (σ3 76 (((4 : Int32) * r3) + (σ3 50 (σ3 59 (x1).toNatClampNeg).toNatClampNeg)).toNatClampNeg)) = 0 → ((0 : Int32) = 0 ∨ (0 : Int32) = 1) ∧ Q 0 σ3)))) ∧ (¬ 0 ≤ r3 → ((1 : Int32) = 0 ∨ (1 : Int32) = 1) ∧ Q 1 σ3))))) := n_mb h (fun h => cc_150 (n_bn h (fun r3 σ3 h => n_mb h (fun h => n_mb h (fun h => n_if h (fun h => n_mb h (fun h => n_mb h (fun h => n_if h (fun h => n_ne h (fun h => n_rb h) (fun h => n_mb h (fun h => n_mb h (fun h => n_if h (fun h => n_mb h (fun h => n_mb h (fun h => n_mb h (fun h => n_if h (fun h => n_mb h (fun h => n_mb h (fun h => n_if h (fun h => n_rb h) (fun h => n_mb h (fun h => n_if h (fun h => n_rb h) (fun h => n_rb h)))))) (fun h => n_mb h (fun h => n_mb h (fun h => n_if h (fun h => n_rb h) (fun h => n_mb h (fun h => n_if h (fun h => n_rb h) (fun h => n_rb h)))))))))) (fun h => n_mb h (fun h => n_mb h (fun h => n_mb h (fun h => n_if h (fun h => n_mb h (fun h => n_mb h (fun h => n_if h (fun h => n_rb h) (fun h => n_mb h (fun h => n_if h (fun h => n_rb h) (fun h => n_rb h)))))) (fun h => n_mb h (fun h => n_mb h (fun h => n_if h (fun h => n_rb h) (fun h => n_mb h (fun h => n_if h (fun h => n_rb h) (fun h => n_rb h)))))))))))))) (fun h => n_rb h)))) (fun h => n_rb h))))))
  exact wpn_Ex (cuts := []) monCC (fun _ _ _ _ z => z) 86 0 _ _ _ v
-- TradeTestsModel.shareOf
set_option maxHeartbeats 20000000 in
set_option maxRecDepth 100000 in
theorem hl_156_7 {sc : Nat × (Nat → Int32)} {Q : Int32 → St → Prop} : ∀ (n : Nat) (v1 : Int32) (v2 : Int32) (v3 : Int32) (v4 : Int32) (σ : St), Ap (lp_156_7 n v1 v2 v3 v4 σ) Q → Ex sc CC 1 cd_156 Q 7 [some (.ref 12), some (.int v1), some (.int v2), some (.int v3), some (.int v4)] [] σ := by
  intro n
  induction n with
  | zero => intro v1 v2 v3 v4 σ h; exact n_no h
  | succ n ih =>
    intro v1 v2 v3 v4 σ h
    have v : ((σ 12 4) ≤ v4 → (¬ v2 = 0 → ¬ v2 = 0 ∧ (Q (((1000 : Int32) * v3) / v2) σ)) ∧ (v2 = 0 → Q (-1) σ)) ∧ (¬ (σ 12 4) ≤ v4 → CC 157 [.ref 12, .int v4] σ (fun r3 σ3 => (r3 = v1 → vp_in v4 80 ∧ (((σ3 70 (v4).toNatClampNeg) = 0 → Ex sc CC 1 cd_156 Q 7 [some (.ref 12), some (.int v1), some (.int (v2 + 1)), some (.int (v3 + 0)), some (.int (v4 + 1))] [] σ3) ∧ (¬ (σ3 70 (v4).toNatClampNeg) = 0 → Ex sc CC 1 cd_156 Q 7 [some (.ref 12), some (.int v1), some (.int (v2 + 1)), some (.int (v3 + 1)), some (.int (v4 + 1))] [] σ3))) ∧ (¬ r3 = v1 → Ex sc CC 1 cd_156 Q 7 [some (.ref 12), some (.int v1), some (.int v2), some (.int v3), some (.int (v4 + 1))] [] σ3))) := n_if h (fun h => n_ne h (fun h => n_rt h) (fun h => n_mb h (fun h => n_rt h))) (fun h => cc_157 (n_bn h (fun r3 σ3 h => n_if h (fun h => n_mb h (fun h => n_if h (fun h => ih v1 (v2 + 1) (v3 + 0) (v4 + 1) σ3 h) (fun h => ih v1 (v2 + 1) (v3 + 1) (v4 + 1) σ3 h))) (fun h => ih v1 v2 v3 (v4 + 1) σ3 h))))
    exact stw_Ex (cuts := [7]) monCC 23 v
set_option maxHeartbeats 20000000 in
set_option maxRecDepth 100000 in
theorem hp_156 {sc : Nat × (Nat → Int32)} {Q : Int32 → St → Prop} {x1 : Int32} {σ : St} (h : Ap (sp_156 x1 σ) Q) : Ex sc CC 1 cd_156 Q 0 [some (.ref 12), some (.int x1), none, none, none] [] σ := by
  have v : Ex sc CC 1 cd_156 Q 7 [some (.ref 12), some (.int x1), some (.int 0), some (.int 0), some (.int 0)] [] σ := hl_156_7 FU x1 0 0 0 σ h
  exact wpn_Ex (cuts := [7]) monCC (fun _ _ _ _ z => z) 8 0 _ _ _ v
-- TradeTestsModel.areNear
set_option maxHeartbeats 20000000 in
set_option maxRecDepth 100000 in
theorem hp_164 {sc : Nat × (Nat → Int32)} {Q : Int32 → St → Prop} {x1 x2 x3 : Int32} {σ : St} (h : Ap (sp_164 x1 x2 x3 σ) Q) : Ex sc CC 2 cd_164 Q 0 [some (.int x1), some (.int x2), some (.int x3)] [] σ := by
  have v : CC 123 [.int (x1 - x2), .int (-x3), .int x3] σ (fun r3 σ3 => (r3 = 0 ∨ r3 = 1) ∧ Q r3 σ3) := cc_123 (n_bn h (fun r3 σ3 h => n_rb h))
  exact wpn_Ex (cuts := []) monCC (fun _ _ _ _ z => z) 9 0 _ _ _ v
