/-! the code does what the functions say (written by wip/whole/gen/spec.py) -/
-- TradeTests$Plan.fillWorths
set_option maxHeartbeats 20000000 in
set_option maxRecDepth 100000 in
set_option maxHeartbeats 20000000 in
set_option maxRecDepth 100000 in
theorem vh_101_20 {sc : Nat × (Nat → Int32)} {C : CT} (hC : MonC C) {Q : Int32 → St → Prop} (v1 : Int32) (v2 : Int32) (σ : St) (v : ((σ 9 3) ≤ v2 → Ex sc C 0 cd_101 Q 2 [some (.ref 11), some (.int (v1 + 1)), some (.int v2)] [] σ) ∧ (¬ (σ 9 3) ≤ v2 → C 99 [.ref 11, .int v2] σ (fun r5 σ5 => vp_in ((v2 * 6) + v1) 36 ∧ (Ex sc C 0 cd_101 Q 20 [some (.ref 11), some (.int v1), some (.int (v2 + 1))] [] (up σ5 48 ((v2 * 6) + v1).toNatClampNeg ((σ 11 6) * r5)))))) : Ex sc C 0 cd_101 Q 20 [some (.ref 11), some (.int v1), some (.int v2)] [] σ := stw_Ex (cuts := [2, 20]) hC 22 v
theorem hl_101_20 {sc : Nat × (Nat → Int32)} {Q : Int32 → St → Prop} (ko : Int32 → St → MR) (hko : ∀ (v1 : Int32) (σ : St), Ap (ko v1 σ) Q → Ex sc CC 0 cd_101 Q 2 [some (.ref 11), some (.int v1), none] [] σ) : ∀ (n : Nat) (v1 : Int32) (v2 : Int32) (σ : St), Ap (lp_101_20 ko n v1 v2 σ) Q → Ex sc CC 0 cd_101 Q 20 [some (.ref 11), some (.int v1), some (.int v2)] [] σ := by
  intro n
  induction n with
  | zero => intro v1 v2 σ h; exact n_no h
  | succ n ih =>
    intro v1 v2 σ h
    exact vh_101_20 monCC v1 v2 σ (n_if h (fun h => Ex_fg [true, true, false] (hko (v1 + 1) σ h)) (fun h => cc_99 (n_bn h (fun r5 σ5 h => n_mb h (fun h => ih v1 (v2 + 1) (up σ5 48 ((v2 * 6) + v1).toNatClampNeg ((σ 11 6) * r5)) h)))))
set_option maxHeartbeats 20000000 in
set_option maxRecDepth 100000 in
set_option maxHeartbeats 20000000 in
set_option maxRecDepth 100000 in
theorem vh_101_2 {sc : Nat × (Nat → Int32)} {C : CT} (hC : MonC C) {Q : Int32 → St → Prop} (v1 : Int32) (σ : St) (v : ((σ 2 2) ≤ v1 → Q 0 σ) ∧ (¬ (σ 2 2) ≤ v1 → C 49 [.ref 11, .int v1] σ (fun r6 σ6 => Ex sc C 0 cd_101 Q 20 [some (.ref 11), some (.int v1), some (.int 0)] [] σ6))) : Ex sc C 0 cd_101 Q 2 [some (.ref 11), some (.int v1), none] [] σ := stw_Ex (cuts := [2, 20]) hC 11 v
theorem hl_101_2 {sc : Nat × (Nat → Int32)} {Q : Int32 → St → Prop} : ∀ (n : Nat) (v1 : Int32) (σ : St), Ap (lp_101_2 n v1 σ) Q → Ex sc CC 0 cd_101 Q 2 [some (.ref 11), some (.int v1), none] [] σ := by
  intro n
  induction n with
  | zero => intro v1 σ h; exact n_no h
  | succ n ih =>
    intro v1 σ h
    exact vh_101_2 monCC v1 σ (n_if h (fun h => n_rt h) (fun h => cc_49 (n_bn h (fun r6 σ6 h => hl_101_20 (fun v1 σ => lp_101_2 n v1 σ) ih FU v1 0 σ6 h))))
set_option maxHeartbeats 20000000 in
set_option maxRecDepth 100000 in
theorem ve_101 {sc : Nat × (Nat → Int32)} {C : CT} (hC : MonC C) {Q : Int32 → St → Prop}  (σ : St) (v : Ex sc C 0 cd_101 Q 2 [some (.ref 11), some (.int 0), none] [] σ) : Ex sc C 0 cd_101 Q 0 [some (.ref 11), none, none] [] σ := wpn_Ex (cuts := [2, 20]) hC (fun _ _ _ _ z => z) 4 0 _ _ _ v
set_option maxHeartbeats 20000000 in
set_option maxRecDepth 100000 in
theorem hp_101 {sc : Nat × (Nat → Int32)} {Q : Int32 → St → Prop}  {σ : St} (h : Ap (sp_101  σ) Q) : Ex sc CC 0 cd_101 Q 0 [some (.ref 11), none, none] [] σ := by
  exact ve_101 monCC  σ (hl_101_2 FU 0 σ h)
-- TradeTests.count
set_option maxHeartbeats 20000000 in
set_option maxRecDepth 100000 in
theorem ve_119 {sc : Nat × (Nat → Int32)} {C : CT} (hC : MonC C) {Q : Int32 → St → Prop} (x1 : Int32) (σ : St) (v : (x1 = 0 → Q (σ 1 3) σ) ∧ (¬ x1 = 0 → (x1 = 1 → Q (σ 2 2) σ) ∧ (¬ x1 = 1 → (x1 = 2 → Q (σ 2 4) σ) ∧ (¬ x1 = 2 → (x1 = 3 → Q (σ 3 14) σ) ∧ (¬ x1 = 3 → (x1 = 4 → Q (σ 4 7) σ) ∧ (¬ x1 = 4 → (x1 = 5 → Q (σ 9 3) σ) ∧ (¬ x1 = 5 → (x1 = 6 → Q (σ 9 4) σ) ∧ (¬ x1 = 6 → (x1 = 7 → Q (σ 3 15) σ) ∧ (¬ x1 = 7 → (x1 = 8 → Q (σ 4 1) σ) ∧ (¬ x1 = 8 → (x1 = 9 → Q (σ 0 12) σ) ∧ (¬ x1 = 9 → (x1 = 10 → C 120 [.ref 6] σ (fun r6 σ6 => Q r6 σ6)) ∧ (¬ x1 = 10 → C 2 [.ref 0, .int 1] σ (fun r5 σ5 => Q r5 σ5))))))))))))) : Ex sc C 1 cd_119 Q 0 [some (.ref 0), some (.int x1)] [] σ := wpn_Ex (cuts := []) hC (fun _ _ _ _ z => z) 7 0 _ _ _ v
set_option maxHeartbeats 20000000 in
set_option maxRecDepth 100000 in
theorem hp_119 {sc : Nat × (Nat → Int32)} {Q : Int32 → St → Prop} {x1 : Int32} {σ : St} (h : Ap (sp_119 x1 σ) Q) : Ex sc CC 1 cd_119 Q 0 [some (.ref 0), some (.int x1)] [] σ := by
  exact ve_119 monCC x1 σ (n_if h (fun h => n_rt h) (fun h => n_if h (fun h => n_rt h) (fun h => n_if h (fun h => n_rt h) (fun h => n_if h (fun h => n_rt h) (fun h => n_if h (fun h => n_rt h) (fun h => n_if h (fun h => n_rt h) (fun h => n_if h (fun h => n_rt h) (fun h => n_if h (fun h => n_rt h) (fun h => n_if h (fun h => n_rt h) (fun h => n_if h (fun h => n_rt h) (fun h => n_if h (fun h => cc_120 (n_bn h (fun r6 σ6 h => n_rt h))) (fun h => cc_2 (n_bn h (fun r5 σ5 h => n_rt h))))))))))))))
-- TradeTestsModel.rate
set_option maxHeartbeats 20000000 in
set_option maxRecDepth 100000 in
set_option maxHeartbeats 20000000 in
set_option maxRecDepth 100000 in
theorem vh_158_38 {sc : Nat × (Nat → Int32)} {C : CT} (hC : MonC C) {Q : Int32 → St → Prop} (v1 : Int32) (v2 : Int32) (v3 : Int32) (v4 : Int32) (v5 : Int32) (v6 : Int32) (v7 : Int32) (σ : St) (v : ((σ 12 4) ≤ v7 → (v2 = 0 → Q v3 σ) ∧ (¬ v2 = 0 → (v2 = 1 → Q v4 σ) ∧ (¬ v2 = 1 → (v2 = 2 → Q v5 σ) ∧ (¬ v2 = 2 → (v2 = 3 → Q v6 σ) ∧ (¬ v2 = 3 → (v2 = 4 → Q ((((Int32.toInt64 1000) * v4.toInt64) - v5.toInt64).toInt32) σ) ∧ (¬ v2 = 4 → (v2 = 5 → C 159 [.ref 12] σ (fun r20 σ20 => (0 < (lg_cmp ((((Int32.toInt64 1000) * v4.toInt64) - v5.toInt64) * (((Int32.toInt64 1000) * v4.toInt64) - v5.toInt64)) (v6.toInt64 * (((4 : Int32) + r20).toInt64))) → ((lg_cmp (((Int32.toInt64 1000) * v4.toInt64) - v5.toInt64) (Int32.toInt64 0)) ≤ 0 → Q 2 σ20) ∧ (¬ (lg_cmp (((Int32.toInt64 1000) * v4.toInt64) - v5.toInt64) (Int32.toInt64 0)) ≤ 0 → Q 1 σ20)) ∧ (¬ 0 < (lg_cmp ((((Int32.toInt64 1000) * v4.toInt64) - v5.toInt64) * (((Int32.toInt64 1000) * v4.toInt64) - v5.toInt64)) (v6.toInt64 * (((4 : Int32) + r20).toInt64))) → Q 0 σ20))) ∧ (¬ v2 = 5 → C 161 [.ref 12, .int v1] σ (fun r19 σ19 => Q r19 σ19)))))))) ∧ (¬ (σ 12 4) ≤ v7 → C 141 [.ref 12, .int v7] σ (fun r21 σ21 => (r21 = v1 → C 157 [.ref 12, .int v7] σ21 (fun r22 σ22 => C 156 [.ref 12, .int r22] σ22 (fun r23 σ23 => vp_in v7 80 ∧ (((σ23 70 (v7).toNatClampNeg) = 0 → Ex sc C 1 cd_158 Q 38 [some (.ref 12), some (.int v1), some (.int v2), some (.int (v3 + 1)), some (.int (v4 + 0)), some (.int (v5 + r23)), some (.int (v6 + (r23 * ((1000 : Int32) - r23)))), some (.int (v7 + 1)), some (.int r23)] [] σ23) ∧ (¬ (σ23 70 (v7).toNatClampNeg) = 0 → Ex sc C 1 cd_158 Q 38 [some (.ref 12), some (.int v1), some (.int v2), some (.int (v3 + 1)), some (.int (v4 + 1)), some (.int (v5 + r23)), some (.int (v6 + (r23 * ((1000 : Int32) - r23)))), some (.int (v7 + 1)), some (.int r23)] [] σ23))))) ∧ (¬ r21 = v1 → Ex sc C 1 cd_158 Q 38 [some (.ref 12), some (.int v1), some (.int v2), some (.int v3), some (.int v4), some (.int v5), some (.int v6), some (.int (v7 + 1)), none] [] σ21)))) : Ex sc C 1 cd_158 Q 38 [some (.ref 12), some (.int v1), some (.int v2), some (.int v3), some (.int v4), some (.int v5), some (.int v6), some (.int v7), none] [] σ := stw_Ex (cuts := [38]) hC 41 v
theorem hl_158_38 {sc : Nat × (Nat → Int32)} {Q : Int32 → St → Prop} : ∀ (n : Nat) (v1 : Int32) (v2 : Int32) (v3 : Int32) (v4 : Int32) (v5 : Int32) (v6 : Int32) (v7 : Int32) (σ : St), Ap (lp_158_38 n v1 v2 v3 v4 v5 v6 v7 σ) Q → Ex sc CC 1 cd_158 Q 38 [some (.ref 12), some (.int v1), some (.int v2), some (.int v3), some (.int v4), some (.int v5), some (.int v6), some (.int v7), none] [] σ := by
  intro n
  induction n with
  | zero => intro v1 v2 v3 v4 v5 v6 v7 σ h; exact n_no h
  | succ n ih =>
    intro v1 v2 v3 v4 v5 v6 v7 σ h
    exact vh_158_38 monCC v1 v2 v3 v4 v5 v6 v7 σ (n_if h (fun h => n_if h (fun h => n_rt h) (fun h => n_if h (fun h => n_rt h) (fun h => n_if h (fun h => n_rt h) (fun h => n_if h (fun h => n_rt h) (fun h => n_if h (fun h => n_rt h) (fun h => n_if h (fun h => cc_159 (n_bn h (fun r20 σ20 h => n_if h (fun h => n_if h (fun h => n_rt h) (fun h => n_rt h)) (fun h => n_rt h)))) (fun h => cc_161 (n_bn h (fun r19 σ19 h => n_rt h))))))))) (fun h => cc_141 (n_bn h (fun r21 σ21 h => n_if h (fun h => cc_157 (n_bn h (fun r22 σ22 h => cc_156 (n_bn h (fun r23 σ23 h => n_mb h (fun h => n_if h (fun h => Ex_fg [true, true, true, true, true, true, true, true, false] (ih v1 v2 (v3 + 1) (v4 + 0) (v5 + r23) (v6 + (r23 * ((1000 : Int32) - r23))) (v7 + 1) σ23 h)) (fun h => Ex_fg [true, true, true, true, true, true, true, true, false] (ih v1 v2 (v3 + 1) (v4 + 1) (v5 + r23) (v6 + (r23 * ((1000 : Int32) - r23))) (v7 + 1) σ23 h)))))))) (fun h => ih v1 v2 v3 v4 v5 v6 (v7 + 1) σ21 h)))))
set_option maxHeartbeats 20000000 in
set_option maxRecDepth 100000 in
theorem ve_158 {sc : Nat × (Nat → Int32)} {C : CT} (hC : MonC C) {Q : Int32 → St → Prop} (x1 x2 : Int32) (σ : St) (v : C 132 [.ref 12, .int x1] σ (fun r24 σ24 => (r24 = 0 → C 125 [.ref 12, .int 1] σ24 (fun r25 σ25 => Q r25 σ25)) ∧ (¬ r24 = 0 → C 123 [.int x2, .int 0, .int 6] σ24 (fun r26 σ26 => (¬ r26 = 0 → Ex sc C 1 cd_158 Q 38 [some (.ref 12), some (.int x1), some (.int x2), some (.int 0), some (.int 0), some (.int 0), some (.int 0), some (.int 0), none] [] σ26) ∧ (r26 = 0 → C 125 [.ref 12, .int 1] σ26 (fun r27 σ27 => Q r27 σ27)))))) : Ex sc C 1 cd_158 Q 0 [some (.ref 12), some (.int x1), some (.int x2), none, none, none, none, none, none] [] σ := wpn_Ex (cuts := [38]) hC (fun _ _ _ _ z => z) 21 0 _ _ _ v
set_option maxHeartbeats 20000000 in
set_option maxRecDepth 100000 in
theorem hp_158 {sc : Nat × (Nat → Int32)} {Q : Int32 → St → Prop} {x1 x2 : Int32} {σ : St} (h : Ap (sp_158 x1 x2 σ) Q) : Ex sc CC 1 cd_158 Q 0 [some (.ref 12), some (.int x1), some (.int x2), none, none, none, none, none, none] [] σ := by
  exact ve_158 monCC x1 x2 σ (cc_132 (n_bn h (fun r24 σ24 h => n_if h (fun h => cc_125 (n_bn h (fun r25 σ25 h => n_rt h))) (fun h => cc_123 (n_bn h (fun r26 σ26 h => n_ne h (fun h => cc_125 (n_bn h (fun r27 σ27 h => n_rt h))) (fun h => hl_158_38 FU x1 x2 0 0 0 0 0 σ26 h)))))))
-- TradeTestsModel.sum
set_option maxHeartbeats 20000000 in
set_option maxRecDepth 100000 in
theorem ve_177 {sc : Nat × (Nat → Int32)} {C : CT} (hC : MonC C) {Q : Int32 → St → Prop} (x1 x2 : Int32) (σ : St) (v : C 134 [.ref 12, .int x1] σ (fun r13 σ13 => (r13 = 0 → C 125 [.ref 12, .int 1] σ13 (fun r14 σ14 => Q r14 σ14)) ∧ (¬ r13 = 0 → C 124 [.int x2] σ13 (fun r15 σ15 => (¬ r15 = 0 → C 178 [.ref 12] σ15 (fun r16 σ16 => C 179 [.ref 12, .int x1, .int x2] σ16 (fun r17 σ17 => Q r17 σ17))) ∧ (r15 = 0 → C 125 [.ref 12, .int 1] σ15 (fun r18 σ18 => Q r18 σ18)))))) : Ex sc C 1 cd_177 Q 0 [some (.ref 12), some (.int x1), some (.int x2)] [] σ := wpn_Ex (cuts := []) hC (fun _ _ _ _ z => z) 15 0 _ _ _ v
set_option maxHeartbeats 20000000 in
set_option maxRecDepth 100000 in
theorem hp_177 {sc : Nat × (Nat → Int32)} {Q : Int32 → St → Prop} {x1 x2 : Int32} {σ : St} (h : Ap (sp_177 x1 x2 σ) Q) : Ex sc CC 1 cd_177 Q 0 [some (.ref 12), some (.int x1), some (.int x2)] [] σ := by
  exact ve_177 monCC x1 x2 σ (cc_134 (n_bn h (fun r13 σ13 h => n_if h (fun h => cc_125 (n_bn h (fun r14 σ14 h => n_rt h))) (fun h => cc_124 (n_bn h (fun r15 σ15 h => n_ne h (fun h => cc_125 (n_bn h (fun r18 σ18 h => n_rt h))) (fun h => cc_178 (n_bn h (fun r16 σ16 h => cc_179 (n_bn h (fun r17 σ17 h => n_rt h)))))))))))
-- TradeTestsModel.banned
set_option maxHeartbeats 20000000 in
set_option maxRecDepth 100000 in
set_option maxHeartbeats 20000000 in
set_option maxRecDepth 100000 in
theorem vh_180_27 {sc : Nat × (Nat → Int32)} {C : CT} (hC : MonC C) {Q : Int32 → St → Prop} (v1 : Int32) (v2 : Int32) (v3 : Int32) (σ : St) (v : (v3 ≤ (v2 - (σ 12 12)) → Q 0 σ) ∧ (¬ v3 ≤ (v2 - (σ 12 12)) → (v3 < 0 → Q 0 σ) ∧ (¬ v3 < 0 → C 179 [.ref 12, .int v1, .int v3] σ (fun r13 σ13 => (r13 < (σ13 12 13) → Ex sc C 1 cd_180 Q 27 [some (.ref 12), some (.int v1), some (.int v2), some (.int (v3 + (-1)))] [] σ13) ∧ (¬ r13 < (σ13 12 13) → Q 1 σ13))))) : Ex sc C 1 cd_180 Q 27 [some (.ref 12), some (.int v1), some (.int v2), some (.int v3)] [] σ := stw_Ex (cuts := [27]) hC 18 v
theorem hl_180_27 {sc : Nat × (Nat → Int32)} {Q : Int32 → St → Prop} : ∀ (n : Nat) (v1 : Int32) (v2 : Int32) (v3 : Int32) (σ : St), Ap (lp_180_27 n v1 v2 v3 σ) Q → Ex sc CC 1 cd_180 Q 27 [some (.ref 12), some (.int v1), some (.int v2), some (.int v3)] [] σ := by
  intro n
  induction n with
  | zero => intro v1 v2 v3 σ h; exact n_no h
  | succ n ih =>
    intro v1 v2 v3 σ h
    exact vh_180_27 monCC v1 v2 v3 σ (n_if h (fun h => n_rt h) (fun h => n_if h (fun h => n_rt h) (fun h => cc_179 (n_bn h (fun r13 σ13 h => n_if h (fun h => ih v1 v2 (v3 + (-1)) σ13 h) (fun h => n_rt h))))))
set_option maxHeartbeats 20000000 in
set_option maxRecDepth 100000 in
theorem ve_180 {sc : Nat × (Nat → Int32)} {C : CT} (hC : MonC C) {Q : Int32 → St → Prop} (x1 x2 : Int32) (σ : St) (v : C 134 [.ref 12, .int x1] σ (fun r14 σ14 => (r14 = 0 → C 125 [.ref 12, .int 1] σ14 (fun r15 σ15 => Q r15 σ15)) ∧ (¬ r14 = 0 → C 124 [.int x2] σ14 (fun r16 σ16 => (¬ r16 = 0 → C 178 [.ref 12] σ16 (fun r17 σ17 => Ex sc C 1 cd_180 Q 27 [some (.ref 12), some (.int x1), some (.int x2), some (.int x2)] [] σ17)) ∧ (r16 = 0 → C 125 [.ref 12, .int 1] σ16 (fun r18 σ18 => Q r18 σ18)))))) : Ex sc C 1 cd_180 Q 0 [some (.ref 12), some (.int x1), some (.int x2), none] [] σ := wpn_Ex (cuts := [27]) hC (fun _ _ _ _ z => z) 13 0 _ _ _ v
set_option maxHeartbeats 20000000 in
set_option maxRecDepth 100000 in
theorem hp_180 {sc : Nat × (Nat → Int32)} {Q : Int32 → St → Prop} {x1 x2 : Int32} {σ : St} (h : Ap (sp_180 x1 x2 σ) Q) : Ex sc CC 1 cd_180 Q 0 [some (.ref 12), some (.int x1), some (.int x2), none] [] σ := by
  exact ve_180 monCC x1 x2 σ (cc_134 (n_bn h (fun r14 σ14 h => n_if h (fun h => cc_125 (n_bn h (fun r15 σ15 h => n_rt h))) (fun h => cc_124 (n_bn h (fun r16 σ16 h => n_ne h (fun h => cc_125 (n_bn h (fun r18 σ18 h => n_rt h))) (fun h => cc_178 (n_bn h (fun r17 σ17 h => hl_180_27 FU x1 x2 x2 σ17 h)))))))))
