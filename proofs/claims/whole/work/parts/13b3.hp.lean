/-! the code does what the functions say (written by wip/whole/gen/spec.py) -/
-- TradeTestsModel.error
set_option maxHeartbeats 20000000 in
set_option maxRecDepth 100000 in
set_option maxHeartbeats 20000000 in
set_option maxRecDepth 100000 in
theorem vh_188_19 {sc : Nat × (Nat → Int32)} {C : CT} (hC : MonC C) {Q : Int32 → St → Prop} (v1 : Int32) (v2 : Int32) (v3 : Int32) (σ : St) (v : ((σ 12 4) ≤ v3 → ¬ v1.toInt64 = 0 ∧ (Q ((((Int32.toInt64 1000) * v2.toInt64) / v1.toInt64).toInt32) σ)) ∧ (¬ (σ 12 4) ≤ v3 → vp_in v3 80 ∧ ((¬ (σ 69 (v3).toNatClampNeg) = 0 → vp_in v3 80 ∧ (¬ (σ 69 (v3).toNatClampNeg) = 0 ∧ (vp_in v3 80 ∧ (((σ 72 (v3).toNatClampNeg) = 0 → Ex sc C 1 cd_188 Q 19 [some (.ref 12), some (.int (v1 + ((10000 : Int32) / (σ 69 (v3).toNatClampNeg)))), some (.int (v2 + 0)), some (.int (v3 + 1)), some (.int ((10000 : Int32) / (σ 69 (v3).toNatClampNeg)))] [] σ) ∧ (¬ (σ 72 (v3).toNatClampNeg) = 0 → Ex sc C 1 cd_188 Q 19 [some (.ref 12), some (.int (v1 + ((10000 : Int32) / (σ 69 (v3).toNatClampNeg)))), some (.int (v2 + ((10000 : Int32) / (σ 69 (v3).toNatClampNeg)))), some (.int (v3 + 1)), some (.int ((10000 : Int32) / (σ 69 (v3).toNatClampNeg)))] [] σ))))) ∧ ((σ 69 (v3).toNatClampNeg) = 0 → vp_in v3 80 ∧ (((σ 72 (v3).toNatClampNeg) = 0 → Ex sc C 1 cd_188 Q 19 [some (.ref 12), some (.int (v1 + 0)), some (.int (v2 + 0)), some (.int (v3 + 1)), some (.int 0)] [] σ) ∧ (¬ (σ 72 (v3).toNatClampNeg) = 0 → Ex sc C 1 cd_188 Q 19 [some (.ref 12), some (.int (v1 + 0)), some (.int (v2 + 0)), some (.int (v3 + 1)), some (.int 0)] [] σ)))))) : Ex sc C 1 cd_188 Q 19 [some (.ref 12), some (.int v1), some (.int v2), some (.int v3), none] [] σ := stw_Ex (cuts := [19]) hC 33 v
theorem hl_188_19 {sc : Nat × (Nat → Int32)} {Q : Int32 → St → Prop} : ∀ (n : Nat) (v1 : Int32) (v2 : Int32) (v3 : Int32) (σ : St), Ap (lp_188_19 n v1 v2 v3 σ) Q → Ex sc CC 1 cd_188 Q 19 [some (.ref 12), some (.int v1), some (.int v2), some (.int v3), none] [] σ := by
  intro n
  induction n with
  | zero => intro v1 v2 v3 σ h; exact n_no h
  | succ n ih =>
    intro v1 v2 v3 σ h
    exact vh_188_19 monCC v1 v2 v3 σ (n_if h (fun h => n_mb h (fun h => n_rt h)) (fun h => n_mb h (fun h => n_ne h (fun h => n_mb h (fun h => n_if h (fun h => Ex_fg [true, true, true, true, false] (ih (v1 + 0) (v2 + 0) (v3 + 1) σ h)) (fun h => Ex_fg [true, true, true, true, false] (ih (v1 + 0) (v2 + 0) (v3 + 1) σ h)))) (fun h => n_mb h (fun h => n_mb h (fun h => n_mb h (fun h => n_if h (fun h => Ex_fg [true, true, true, true, false] (ih (v1 + ((10000 : Int32) / (σ 69 (v3).toNatClampNeg))) (v2 + 0) (v3 + 1) σ h)) (fun h => Ex_fg [true, true, true, true, false] (ih (v1 + ((10000 : Int32) / (σ 69 (v3).toNatClampNeg))) (v2 + ((10000 : Int32) / (σ 69 (v3).toNatClampNeg))) (v3 + 1) σ h)))))))))
set_option maxHeartbeats 20000000 in
set_option maxRecDepth 100000 in
theorem ve_188 {sc : Nat × (Nat → Int32)} {C : CT} (hC : MonC C) {Q : Int32 → St → Prop}  (σ : St) (v : (¬ (σ 12 8) = 0 → Ex sc C 1 cd_188 Q 19 [some (.ref 12), some (.int 0), some (.int 0), some (.int 0), none] [] σ) ∧ ((σ 12 8) = 0 → C 125 [.ref 12, .int 2] σ (fun r3 σ3 => Q r3 σ3))) : Ex sc C 1 cd_188 Q 0 [some (.ref 12), none, none, none, none] [] σ := wpn_Ex (cuts := [19]) hC (fun _ _ _ _ z => z) 11 0 _ _ _ v
set_option maxHeartbeats 20000000 in
set_option maxRecDepth 100000 in
theorem hp_188 {sc : Nat × (Nat → Int32)} {Q : Int32 → St → Prop}  {σ : St} (h : Ap (sp_188  σ) Q) : Ex sc CC 1 cd_188 Q 0 [some (.ref 12), none, none, none, none] [] σ := by
  exact ve_188 monCC  σ (n_ne h (fun h => cc_125 (n_bn h (fun r3 σ3 h => n_rt h))) (fun h => hl_188_19 FU 0 0 0 σ h))
-- TradeTestsModel.tell
set_option maxHeartbeats 20000000 in
set_option maxRecDepth 100000 in
theorem ve_191 {sc : Nat × (Nat → Int32)} {C : CT} (hC : MonC C) {Q : Int32 → St → Prop} (x1 : Int32) (σ : St) (v : (¬ (σ 12 10) = 8 → vp_in (σ 12 10) 8 ∧ (Q ((σ 12 10) + 1) (up (up σ 79 (σ 12 10).toNatClampNeg x1) 12 10 ((σ 12 10) + 1)))) ∧ ((σ 12 10) = 8 → C 125 [.ref 12, .int 4] σ (fun r3 σ3 => Q r3 σ3))) : Ex sc C 1 cd_191 Q 0 [some (.ref 12), some (.int x1)] [] σ := wpn_Ex (cuts := []) hC (fun _ _ _ _ z => z) 20 0 _ _ _ v
set_option maxHeartbeats 20000000 in
set_option maxRecDepth 100000 in
theorem hp_191 {sc : Nat × (Nat → Int32)} {Q : Int32 → St → Prop} {x1 : Int32} {σ : St} (h : Ap (sp_191 x1 σ) Q) : Ex sc CC 1 cd_191 Q 0 [some (.ref 12), some (.int x1)] [] σ := by
  exact ve_191 monCC x1 σ (n_ne h (fun h => cc_125 (n_bn h (fun r3 σ3 h => n_rt h))) (fun h => n_mb h (fun h => n_rt h)))
-- TradeTestsModel.found
set_option maxHeartbeats 20000000 in
set_option maxRecDepth 100000 in
theorem ve_194 {sc : Nat × (Nat → Int32)} {C : CT} (hC : MonC C) {Q : Int32 → St → Prop} (x1 : Int32) (σ : St) (v : C 123 [.int x1, .int 1, .int 5] σ (fun r5 σ5 => (r5 = 0 → C 125 [.ref 12, .int 1] σ5 (fun r6 σ6 => Q r6 σ6)) ∧ (¬ r5 = 0 → vp_in x1 6 ∧ (Q (σ5 80 (x1).toNatClampNeg) σ5)))) : Ex sc C 1 cd_194 Q 0 [some (.ref 12), some (.int x1)] [] σ := wpn_Ex (cuts := []) hC (fun _ _ _ _ z => z) 12 0 _ _ _ v
set_option maxHeartbeats 20000000 in
set_option maxRecDepth 100000 in
theorem hp_194 {sc : Nat × (Nat → Int32)} {Q : Int32 → St → Prop} {x1 : Int32} {σ : St} (h : Ap (sp_194 x1 σ) Q) : Ex sc CC 1 cd_194 Q 0 [some (.ref 12), some (.int x1)] [] σ := by
  exact ve_194 monCC x1 σ (cc_123 (n_bn h (fun r5 σ5 h => n_if h (fun h => cc_125 (n_bn h (fun r6 σ6 h => n_rt h))) (fun h => n_mb h (fun h => n_rt h)))))
-- TradeTests.test
set_option maxHeartbeats 20000000 in
set_option maxRecDepth 100000 in
theorem ve_16 {sc : Nat × (Nat → Int32)} {C : CT} (hC : MonC C) {Q : Int32 → St → Prop} (x1 x2 x3 x4 x5 : Int32) (σ : St) (v : C 17 [.ref 0, .int x1] σ (fun r25 σ25 => (r25 = 0 → C 2 [.ref 0, .int 1] σ25 (fun r26 σ26 => Q r26 σ26)) ∧ (¬ r25 = 0 → C 18 [.ref 0, .int x1, .int x2] σ25 (fun r27 σ27 => (r27 = 0 → C 2 [.ref 0, .int 1] σ27 (fun r28 σ28 => Q r28 σ28)) ∧ (¬ r27 = 0 → C 20 [.int x2, .int x3] σ27 (fun r29 σ29 => (¬ r29 = 0 → C 21 [.ref 0, .int x1, .int x4] σ29 (fun r30 σ30 => (r30 = 0 → C 2 [.ref 0, .int 1] σ30 (fun r31 σ31 => Q r31 σ31)) ∧ (¬ r30 = 0 → C 1 [.int x5, .int 1000000] σ30 (fun r32 σ32 => (¬ r32 = 0 → ((σ32 3 14) < 80 → C 22 [.ref 3, .int x1, .int x2, .int x3, .int x4, .int x5] σ32 (fun r33 σ33 => Q r33 σ33)) ∧ (¬ (σ32 3 14) < 80 → C 2 [.ref 0, .int 4] σ32 (fun r34 σ34 => Q r34 σ34))) ∧ (r32 = 0 → C 2 [.ref 0, .int 1] σ32 (fun r35 σ35 => Q r35 σ35)))))) ∧ (r29 = 0 → C 2 [.ref 0, .int 1] σ29 (fun r36 σ36 => Q r36 σ36)))))))) : Ex sc C 1 cd_16 Q 0 [some (.ref 0), some (.int x1), some (.int x2), some (.int x3), some (.int x4), some (.int x5)] [] σ := wpn_Ex (cuts := []) hC (fun _ _ _ _ z => z) 37 0 _ _ _ v
set_option maxHeartbeats 20000000 in
set_option maxRecDepth 100000 in
theorem hp_16 {sc : Nat × (Nat → Int32)} {Q : Int32 → St → Prop} {x1 x2 x3 x4 x5 : Int32} {σ : St} (h : Ap (sp_16 x1 x2 x3 x4 x5 σ) Q) : Ex sc CC 1 cd_16 Q 0 [some (.ref 0), some (.int x1), some (.int x2), some (.int x3), some (.int x4), some (.int x5)] [] σ := by
  exact ve_16 monCC x1 x2 x3 x4 x5 σ (cc_17 (n_bn h (fun r25 σ25 h => n_if h (fun h => cc_2 (n_bn h (fun r26 σ26 h => n_rt h))) (fun h => cc_18 (n_bn h (fun r27 σ27 h => n_if h (fun h => cc_2 (n_bn h (fun r28 σ28 h => n_rt h))) (fun h => cc_20 (n_bn h (fun r29 σ29 h => n_ne h (fun h => cc_2 (n_bn h (fun r36 σ36 h => n_rt h))) (fun h => cc_21 (n_bn h (fun r30 σ30 h => n_if h (fun h => cc_2 (n_bn h (fun r31 σ31 h => n_rt h))) (fun h => cc_1 (n_bn h (fun r32 σ32 h => n_ne h (fun h => cc_2 (n_bn h (fun r35 σ35 h => n_rt h))) (fun h => n_if h (fun h => cc_22 (n_bn h (fun r33 σ33 h => n_rt h))) (fun h => cc_2 (n_bn h (fun r34 σ34 h => n_rt h)))))))))))))))))))
-- TradeTests.of
set_option maxHeartbeats 20000000 in
set_option maxRecDepth 100000 in
theorem ve_23 {sc : Nat × (Nat → Int32)} {C : CT} (hC : MonC C) {Q : Int32 → St → Prop} (x1 x2 : Int32) (σ : St) (v : C 1 [.int x1, .int (σ 3 14)] σ (fun r13 σ13 => (r13 = 0 → C 2 [.ref 0, .int 1] σ13 (fun r14 σ14 => Q r14 σ14)) ∧ (¬ r13 = 0 → C 1 [.int x2, .int 11] σ13 (fun r15 σ15 => (¬ r15 = 0 → (¬ x2 = 10 → C 25 [.ref 3, .int x1, .int x2] σ15 (fun r16 σ16 => Q r16 σ16)) ∧ (x2 = 10 → C 24 [.ref 2, .ref 3, .int x1] σ15 (fun r17 σ17 => Q r17 σ17))) ∧ (r15 = 0 → C 2 [.ref 0, .int 1] σ15 (fun r18 σ18 => Q r18 σ18)))))) : Ex sc C 1 cd_23 Q 0 [some (.ref 0), some (.int x1), some (.int x2)] [] σ := wpn_Ex (cuts := []) hC (fun _ _ _ _ z => z) 22 0 _ _ _ v
set_option maxHeartbeats 20000000 in
set_option maxRecDepth 100000 in
theorem hp_23 {sc : Nat × (Nat → Int32)} {Q : Int32 → St → Prop} {x1 x2 : Int32} {σ : St} (h : Ap (sp_23 x1 x2 σ) Q) : Ex sc CC 1 cd_23 Q 0 [some (.ref 0), some (.int x1), some (.int x2)] [] σ := by
  exact ve_23 monCC x1 x2 σ (cc_1 (n_bn h (fun r13 σ13 h => n_if h (fun h => cc_2 (n_bn h (fun r14 σ14 h => n_rt h))) (fun h => cc_1 (n_bn h (fun r15 σ15 h => n_ne h (fun h => cc_2 (n_bn h (fun r18 σ18 h => n_rt h))) (fun h => n_ne h (fun h => cc_24 (n_bn h (fun r17 σ17 h => n_rt h))) (fun h => cc_25 (n_bn h (fun r16 σ16 h => n_rt h))))))))))
-- TradeTests$Texts.readFault
set_option maxHeartbeats 20000000 in
set_option maxRecDepth 100000 in
set_option maxHeartbeats 20000000 in
set_option maxRecDepth 100000 in
theorem vh_34_69 {sc : Nat × (Nat → Int32)} {C : CT} (hC : MonC C) {Q : Int32 → St → Prop} (v1 : Int32) (v2 : Int32) (v3 : Int32) (σ : St) (v : (4 ≤ v3 → ((1 : Int32) = 0 ∨ (1 : Int32) = 1) ∧ Q 1 σ) ∧ (¬ 4 ≤ v3 → C 5 [.int v3, .int v2] σ (fun r15 σ15 => (r15 = 0 → Ex sc C 2 cd_34 Q 69 [some (.ref 4), some (.int v1), some (.int v2), some (.int (v3 + 1))] [] σ15) ∧ (¬ r15 = 0 → vp_in (((σ15 4 7) * 4) + v3) 24 ∧ (vp_in (((σ15 4 7) * 4) + v3) 24 ∧ (Ex sc C 2 cd_34 Q 69 [some (.ref 4), some (.int v1), some (.int v2), some (.int (v3 + 1))] [] (up σ15 42 (((σ15 4 7) * 4) + v3).toNatClampNeg ((σ15 42 (((σ15 4 7) * 4) + v3).toNatClampNeg) ||| v1)))))))) : Ex sc C 2 cd_34 Q 69 [some (.ref 4), some (.int v1), some (.int v2), some (.int v3)] [] σ := stw_Ex (cuts := [69]) hC 23 v
theorem hl_34_69 {sc : Nat × (Nat → Int32)} {Q : Int32 → St → Prop} : ∀ (n : Nat) (v1 : Int32) (v2 : Int32) (v3 : Int32) (σ : St), Ap (lp_34_69 n v1 v2 v3 σ) Q → Ex sc CC 2 cd_34 Q 69 [some (.ref 4), some (.int v1), some (.int v2), some (.int v3)] [] σ := by
  intro n
  induction n with
  | zero => intro v1 v2 v3 σ h; exact n_no h
  | succ n ih =>
    intro v1 v2 v3 σ h
    exact vh_34_69 monCC v1 v2 v3 σ (n_if h (fun h => n_rb h) (fun h => cc_5 (n_bn h (fun r15 σ15 h => n_if h (fun h => ih v1 v2 (v3 + 1) σ15 h) (fun h => n_mb h (fun h => n_mb h (fun h => ih v1 v2 (v3 + 1) (up σ15 42 (((σ15 4 7) * 4) + v3).toNatClampNeg ((σ15 42 (((σ15 4 7) * 4) + v3).toNatClampNeg) ||| v1)) h)))))))
set_option maxHeartbeats 20000000 in
set_option maxRecDepth 100000 in
theorem ve_34 {sc : Nat × (Nat → Int32)} {C : CT} (hC : MonC C) {Q : Int32 → St → Prop}  (σ : St) (v : C 33 [.ref 4] σ (fun r16 σ16 => C 35 [.int r16, .int 55] σ16 (fun r17 σ17 => (¬ r17 = 0 → C 33 [.ref 4] σ17 (fun r18 σ18 => C 33 [.ref 4] (up σ18 4 2 ((σ18 4 2) + 1)) (fun r19 σ19 => C 36 [.int r19] σ19 (fun r20 σ20 => (0 ≤ r20 → C 37 [.ref 4] (up σ20 4 2 ((σ20 4 2) + 1)) (fun r21 σ21 => (¬ r21 = 0 → Ex sc C 2 cd_34 Q 69 [some (.ref 4), some (.int ((1 : Int32) <<< ((r18 - 48) &&& 31))), some (.int r20), some (.int 0)] [] σ21) ∧ (r21 = 0 → ((0 : Int32) = 0 ∨ (0 : Int32) = 1) ∧ Q 0 σ21))) ∧ (¬ 0 ≤ r20 → ((0 : Int32) = 0 ∨ (0 : Int32) = 1) ∧ Q 0 σ20))))) ∧ (r17 = 0 → ((0 : Int32) = 0 ∨ (0 : Int32) = 1) ∧ Q 0 σ17)))) : Ex sc C 2 cd_34 Q 0 [some (.ref 4), none, none, none] [] σ := wpn_Ex (cuts := [69]) hC (fun _ _ _ _ z => z) 37 0 _ _ _ v
set_option maxHeartbeats 20000000 in
set_option maxRecDepth 100000 in
theorem hp_34 {sc : Nat × (Nat → Int32)} {Q : Int32 → St → Prop}  {σ : St} (h : Ap (sp_34  σ) Q) : Ex sc CC 2 cd_34 Q 0 [some (.ref 4), none, none, none] [] σ := by
  exact ve_34 monCC  σ (cc_33 (n_bn h (fun r16 σ16 h => cc_35 (n_bn h (fun r17 σ17 h => n_ne h (fun h => n_rb h) (fun h => cc_33 (n_bn h (fun r18 σ18 h => cc_33 (n_bn h (fun r19 σ19 h => cc_36 (n_bn h (fun r20 σ20 h => n_if h (fun h => cc_37 (n_bn h (fun r21 σ21 h => n_ne h (fun h => n_rb h) (fun h => hl_34_69 FU ((1 : Int32) <<< ((r18 - 48) &&& 31)) r20 0 σ21 h)))) (fun h => n_rb h)))))))))))))
