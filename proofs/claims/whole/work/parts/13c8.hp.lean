/-! the code does what the functions say (written by wip/whole/gen/spec.py) -/
-- TradeTestsModel.worthOf
set_option maxHeartbeats 20000000 in
set_option maxRecDepth 100000 in
set_option maxHeartbeats 20000000 in
set_option maxRecDepth 100000 in
theorem vh_184_5 {sc : Nat × (Nat → Int32)} {C : CT} (hC : MonC C) {Q : Int32 → St → Prop} (v1 : Int32) (v2 : Int32) (v3 : Int32) (v4 : Int32) (σ : St) (v : ((σ 12 4) ≤ v4 → C 161 [.ref 12, .int v2] σ (fun r7 σ7 => vp_in v1 6 ∧ (C 160 [.int ((σ7 77 (v1).toNatClampNeg) &&& (v3 ^^^ (-1)))] σ7 (fun r8 σ8 => Q (r7 * r8) σ8)))) ∧ (¬ (σ 12 4) ≤ v4 → vp_in v4 80 ∧ (((σ 68 (v4).toNatClampNeg) < 0 → Ex sc C 1 cd_184 Q 5 [some (.ref 12), some (.int v1), some (.int v2), some (.int (v3 ||| 0)), some (.int (v4 + 1))] [] σ) ∧ (¬ (σ 68 (v4).toNatClampNeg) < 0 → C 141 [.ref 12, .int v4] σ (fun r9 σ9 => (¬ r9 = v2 → Ex sc C 1 cd_184 Q 5 [some (.ref 12), some (.int v1), some (.int v2), some (.int (v3 ||| 0)), some (.int (v4 + 1))] [] σ9) ∧ (r9 = v2 → vp_in v4 80 ∧ (vp_in (σ9 68 (v4).toNatClampNeg) 6 ∧ (Ex sc C 1 cd_184 Q 5 [some (.ref 12), some (.int v1), some (.int v2), some (.int (v3 ||| (σ9 77 (σ9 68 (v4).toNatClampNeg).toNatClampNeg))), some (.int (v4 + 1))] [] σ9)))))))) : Ex sc C 1 cd_184 Q 5 [some (.ref 12), some (.int v1), some (.int v2), some (.int v3), some (.int v4)] [] σ := stw_Ex (cuts := [5]) hC 28 v
theorem hl_184_5 {sc : Nat × (Nat → Int32)} {Q : Int32 → St → Prop} : ∀ (n : Nat) (v1 : Int32) (v2 : Int32) (v3 : Int32) (v4 : Int32) (σ : St), Ap (lp_184_5 n v1 v2 v3 v4 σ) Q → Ex sc CC 1 cd_184 Q 5 [some (.ref 12), some (.int v1), some (.int v2), some (.int v3), some (.int v4)] [] σ := by
  intro n
  induction n with
  | zero => intro v1 v2 v3 v4 σ h; exact n_no h
  | succ n ih =>
    intro v1 v2 v3 v4 σ h
    exact vh_184_5 monCC v1 v2 v3 v4 σ (n_if h (fun h => cc_161 (n_bn h (fun r7 σ7 h => n_mb h (fun h => cc_160 (n_bn h (fun r8 σ8 h => n_rt h)))))) (fun h => n_mb h (fun h => n_if h (fun h => ih v1 v2 (v3 ||| 0) (v4 + 1) σ h) (fun h => cc_141 (n_bn h (fun r9 σ9 h => n_ne h (fun h => n_mb h (fun h => n_mb h (fun h => ih v1 v2 (v3 ||| (σ9 77 (σ9 68 (v4).toNatClampNeg).toNatClampNeg)) (v4 + 1) σ9 h))) (fun h => ih v1 v2 (v3 ||| 0) (v4 + 1) σ9 h)))))))
set_option maxHeartbeats 20000000 in
set_option maxRecDepth 100000 in
theorem ve_184 {sc : Nat × (Nat → Int32)} {C : CT} (hC : MonC C) {Q : Int32 → St → Prop} (x1 x2 : Int32) (σ : St) (v : Ex sc C 1 cd_184 Q 5 [some (.ref 12), some (.int x1), some (.int x2), some (.int 0), some (.int 0)] [] σ) : Ex sc C 1 cd_184 Q 0 [some (.ref 12), some (.int x1), some (.int x2), none, none] [] σ := wpn_Ex (cuts := [5]) hC (fun _ _ _ _ z => z) 6 0 _ _ _ v
set_option maxHeartbeats 20000000 in
set_option maxRecDepth 100000 in
theorem hp_184 {sc : Nat × (Nat → Int32)} {Q : Int32 → St → Prop} {x1 x2 : Int32} {σ : St} (h : Ap (sp_184 x1 x2 σ) Q) : Ex sc CC 1 cd_184 Q 0 [some (.ref 12), some (.int x1), some (.int x2), none, none] [] σ := by
  exact ve_184 monCC x1 x2 σ (hl_184_5 FU x1 x2 0 0 σ h)
-- TradeTestsModel.check
set_option maxHeartbeats 20000000 in
set_option maxRecDepth 100000 in
set_option maxHeartbeats 20000000 in
set_option maxRecDepth 100000 in
theorem vh_192_29 {sc : Nat × (Nat → Int32)} {C : CT} (hC : MonC C) {Q : Int32 → St → Prop} (v1 : Int32) (v2 : Int32) (v3 : Int32) (σ : St) (v : (v2 ≤ v3 → Q 0 σ) ∧ (¬ v2 ≤ v3 → ((σ 12 2) ≤ v3 → Q ((1 : Int32) + v3) σ) ∧ (¬ (σ 12 2) ≤ v3 → C 179 [.ref 12, .int v3, .int v1] σ (fun r9 σ9 => vp_in v3 8 ∧ ((r9 = (σ9 79 (v3).toNatClampNeg) → Ex sc C 1 cd_192 Q 29 [some (.ref 12), some (.int v1), some (.int v2), some (.int (v3 + 1))] [] σ9) ∧ (¬ r9 = (σ9 79 (v3).toNatClampNeg) → Q ((1 : Int32) + v3) σ9)))))) : Ex sc C 1 cd_192 Q 29 [some (.ref 12), some (.int v1), some (.int v2), some (.int v3)] [] σ := stw_Ex (cuts := [29]) hC 20 v
theorem hl_192_29 {sc : Nat × (Nat → Int32)} {Q : Int32 → St → Prop} : ∀ (n : Nat) (v1 : Int32) (v2 : Int32) (v3 : Int32) (σ : St), Ap (lp_192_29 n v1 v2 v3 σ) Q → Ex sc CC 1 cd_192 Q 29 [some (.ref 12), some (.int v1), some (.int v2), some (.int v3)] [] σ := by
  intro n
  induction n with
  | zero => intro v1 v2 v3 σ h; exact n_no h
  | succ n ih =>
    intro v1 v2 v3 σ h
    exact vh_192_29 monCC v1 v2 v3 σ (n_if h (fun h => n_rt h) (fun h => n_if h (fun h => n_rt h) (fun h => cc_179 (n_bn h (fun r9 σ9 h => n_mb h (fun h => n_if h (fun h => ih v1 v2 (v3 + 1) σ9 h) (fun h => n_rt h)))))))
set_option maxHeartbeats 20000000 in
set_option maxRecDepth 100000 in
theorem ve_192 {sc : Nat × (Nat → Int32)} {C : CT} (hC : MonC C) {Q : Int32 → St → Prop} (x1 : Int32) (σ : St) (v : C 124 [.int x1] (up σ 12 10 0) (fun r10 σ10 => (¬ r10 = 0 → C 178 [.ref 12] σ10 (fun r11 σ11 => Ex sc C 1 cd_192 Q 29 [some (.ref 12), some (.int x1), some (.int (σ 12 10)), some (.int 0)] [] σ11)) ∧ (r10 = 0 → C 125 [.ref 12, .int 1] σ10 (fun r12 σ12 => Q r12 σ12)))) : Ex sc C 1 cd_192 Q 0 [some (.ref 12), some (.int x1), none, none] [] σ := wpn_Ex (cuts := [29]) hC (fun _ _ _ _ z => z) 15 0 _ _ _ v
set_option maxHeartbeats 20000000 in
set_option maxRecDepth 100000 in
theorem hp_192 {sc : Nat × (Nat → Int32)} {Q : Int32 → St → Prop} {x1 : Int32} {σ : St} (h : Ap (sp_192 x1 σ) Q) : Ex sc CC 1 cd_192 Q 0 [some (.ref 12), some (.int x1), none, none] [] σ := by
  exact ve_192 monCC x1 σ (cc_124 (n_bn h (fun r10 σ10 h => n_ne h (fun h => cc_125 (n_bn h (fun r12 σ12 h => n_rt h))) (fun h => cc_178 (n_bn h (fun r11 σ11 h => hl_192_29 FU x1 (σ 12 10) 0 σ11 h))))))
-- TradeTests.text
set_option maxHeartbeats 20000000 in
set_option maxRecDepth 100000 in
theorem ve_28 {sc : Nat × (Nat → Int32)} {C : CT} (hC : MonC C) {Q : Int32 → St → Prop} (x1 : Int32) (σ : St) (v : C 1 [.int x1, .int 10000] σ (fun r9 σ9 => (¬ r9 = 0 → ((σ9 4 7) < 6 → C 29 [.ref 4, .int x1] σ9 (fun r10 σ10 => (0 ≤ r10 → Q ((-10 : Int32) - r10) σ10) ∧ (¬ 0 ≤ r10 → Q (σ10 4 7) σ10))) ∧ (¬ (σ9 4 7) < 6 → C 2 [.ref 0, .int 4] σ9 (fun r11 σ11 => Q r11 σ11))) ∧ (r9 = 0 → C 2 [.ref 0, .int 1] σ9 (fun r12 σ12 => Q r12 σ12)))) : Ex sc C 1 cd_28 Q 0 [some (.ref 0), some (.int x1), none] [] σ := wpn_Ex (cuts := []) hC (fun _ _ _ _ z => z) 22 0 _ _ _ v
set_option maxHeartbeats 20000000 in
set_option maxRecDepth 100000 in
theorem hp_28 {sc : Nat × (Nat → Int32)} {Q : Int32 → St → Prop} {x1 : Int32} {σ : St} (h : Ap (sp_28 x1 σ) Q) : Ex sc CC 1 cd_28 Q 0 [some (.ref 0), some (.int x1), none] [] σ := by
  exact ve_28 monCC x1 σ (cc_1 (n_bn h (fun r9 σ9 h => n_ne h (fun h => cc_2 (n_bn h (fun r12 σ12 h => n_rt h))) (fun h => n_if h (fun h => cc_29 (n_bn h (fun r10 σ10 h => n_if h (fun h => n_rt h) (fun h => n_rt h)))) (fun h => cc_2 (n_bn h (fun r11 σ11 h => n_rt h)))))))
-- TradeTests.rate
set_option maxHeartbeats 20000000 in
set_option maxRecDepth 100000 in
theorem ve_47 {sc : Nat × (Nat → Int32)} {C : CT} (hC : MonC C) {Q : Int32 → St → Prop} (x1 x2 : Int32) (σ : St) (v : C 1 [.int x1, .int (σ 2 2)] σ (fun r13 σ13 => (r13 = 0 → C 2 [.ref 0, .int 1] σ13 (fun r14 σ14 => Q r14 σ14)) ∧ (¬ r13 = 0 → C 1 [.int x2, .int 7] σ13 (fun r15 σ15 => (¬ r15 = 0 → (¬ x2 = 6 → C 62 [.ref 7, .int x1, .int x2] σ15 (fun r16 σ16 => Q r16 σ16)) ∧ (x2 = 6 → C 48 [.ref 11, .int x1] σ15 (fun r17 σ17 => Q r17 σ17))) ∧ (r15 = 0 → C 2 [.ref 0, .int 1] σ15 (fun r18 σ18 => Q r18 σ18)))))) : Ex sc C 1 cd_47 Q 0 [some (.ref 0), some (.int x1), some (.int x2)] [] σ := wpn_Ex (cuts := []) hC (fun _ _ _ _ z => z) 20 0 _ _ _ v
set_option maxHeartbeats 20000000 in
set_option maxRecDepth 100000 in
theorem hp_47 {sc : Nat × (Nat → Int32)} {Q : Int32 → St → Prop} {x1 x2 : Int32} {σ : St} (h : Ap (sp_47 x1 x2 σ) Q) : Ex sc CC 1 cd_47 Q 0 [some (.ref 0), some (.int x1), some (.int x2)] [] σ := by
  exact ve_47 monCC x1 x2 σ (cc_1 (n_bn h (fun r13 σ13 h => n_if h (fun h => cc_2 (n_bn h (fun r14 σ14 h => n_rt h))) (fun h => cc_1 (n_bn h (fun r15 σ15 h => n_ne h (fun h => cc_2 (n_bn h (fun r18 σ18 h => n_rt h))) (fun h => n_ne h (fun h => cc_48 (n_bn h (fun r17 σ17 h => n_rt h))) (fun h => cc_62 (n_bn h (fun r16 σ16 h => n_rt h))))))))))
-- TradeTests.sum
set_option maxHeartbeats 20000000 in
set_option maxRecDepth 100000 in
theorem ve_87 {sc : Nat × (Nat → Int32)} {C : CT} (hC : MonC C) {Q : Int32 → St → Prop} (x1 x2 : Int32) (σ : St) (v : C 1 [.int x1, .int (σ 2 4)] σ (fun r11 σ11 => (r11 = 0 → C 2 [.ref 0, .int 1] σ11 (fun r12 σ12 => Q r12 σ12)) ∧ (¬ r11 = 0 → C 1 [.int x2, .int 10000] σ11 (fun r13 σ13 => (¬ r13 = 0 → C 88 [.ref 10, .int x1, .int x2] σ13 (fun r14 σ14 => Q r14 σ14)) ∧ (r13 = 0 → C 2 [.ref 0, .int 1] σ13 (fun r15 σ15 => Q r15 σ15)))))) : Ex sc C 1 cd_87 Q 0 [some (.ref 0), some (.int x1), some (.int x2)] [] σ := wpn_Ex (cuts := []) hC (fun _ _ _ _ z => z) 17 0 _ _ _ v
set_option maxHeartbeats 20000000 in
set_option maxRecDepth 100000 in
theorem hp_87 {sc : Nat × (Nat → Int32)} {Q : Int32 → St → Prop} {x1 x2 : Int32} {σ : St} (h : Ap (sp_87 x1 x2 σ) Q) : Ex sc CC 1 cd_87 Q 0 [some (.ref 0), some (.int x1), some (.int x2)] [] σ := by
  exact ve_87 monCC x1 x2 σ (cc_1 (n_bn h (fun r11 σ11 h => n_if h (fun h => cc_2 (n_bn h (fun r12 σ12 h => n_rt h))) (fun h => cc_1 (n_bn h (fun r13 σ13 h => n_ne h (fun h => cc_2 (n_bn h (fun r15 σ15 h => n_rt h))) (fun h => cc_88 (n_bn h (fun r14 σ14 h => n_rt h)))))))))
-- TradeTests.banned
set_option maxHeartbeats 20000000 in
set_option maxRecDepth 100000 in
theorem ve_91 {sc : Nat × (Nat → Int32)} {C : CT} (hC : MonC C) {Q : Int32 → St → Prop} (x1 x2 : Int32) (σ : St) (v : C 1 [.int x1, .int (σ 2 4)] σ (fun r11 σ11 => (r11 = 0 → C 2 [.ref 0, .int 1] σ11 (fun r12 σ12 => Q r12 σ12)) ∧ (¬ r11 = 0 → C 1 [.int x2, .int 10000] σ11 (fun r13 σ13 => (¬ r13 = 0 → C 92 [.ref 10, .int x1, .int x2] σ13 (fun r14 σ14 => (r14 = 0 → Q 0 σ14) ∧ (¬ r14 = 0 → Q 1 σ14))) ∧ (r13 = 0 → C 2 [.ref 0, .int 1] σ13 (fun r15 σ15 => Q r15 σ15)))))) : Ex sc C 1 cd_91 Q 0 [some (.ref 0), some (.int x1), some (.int x2)] [] σ := wpn_Ex (cuts := []) hC (fun _ _ _ _ z => z) 20 0 _ _ _ v
set_option maxHeartbeats 20000000 in
set_option maxRecDepth 100000 in
theorem hp_91 {sc : Nat × (Nat → Int32)} {Q : Int32 → St → Prop} {x1 x2 : Int32} {σ : St} (h : Ap (sp_91 x1 x2 σ) Q) : Ex sc CC 1 cd_91 Q 0 [some (.ref 0), some (.int x1), some (.int x2)] [] σ := by
  exact ve_91 monCC x1 x2 σ (cc_1 (n_bn h (fun r11 σ11 h => n_if h (fun h => cc_2 (n_bn h (fun r12 σ12 h => n_rt h))) (fun h => cc_1 (n_bn h (fun r13 σ13 h => n_ne h (fun h => cc_2 (n_bn h (fun r15 σ15 h => n_rt h))) (fun h => cc_92 (n_bn h (fun r14 σ14 h => n_if h (fun h => n_rt h) (fun h => n_rt h))))))))))
-- TradeTests.worth
set_option maxHeartbeats 20000000 in
set_option maxRecDepth 100000 in
theorem ve_97 {sc : Nat × (Nat → Int32)} {C : CT} (hC : MonC C) {Q : Int32 → St → Prop} (x1 x2 : Int32) (σ : St) (v : C 1 [.int x1, .int (σ 9 3)] σ (fun r11 σ11 => (r11 = 0 → C 2 [.ref 0, .int 1] σ11 (fun r12 σ12 => Q r12 σ12)) ∧ (¬ r11 = 0 → C 1 [.int x2, .int (σ11 2 2)] σ11 (fun r13 σ13 => (¬ r13 = 0 → C 98 [.ref 11, .int x1, .int x2] σ13 (fun r14 σ14 => Q r14 σ14)) ∧ (r13 = 0 → C 2 [.ref 0, .int 1] σ13 (fun r15 σ15 => Q r15 σ15)))))) : Ex sc C 1 cd_97 Q 0 [some (.ref 0), some (.int x1), some (.int x2)] [] σ := wpn_Ex (cuts := []) hC (fun _ _ _ _ z => z) 19 0 _ _ _ v
set_option maxHeartbeats 20000000 in
set_option maxRecDepth 100000 in
theorem hp_97 {sc : Nat × (Nat → Int32)} {Q : Int32 → St → Prop} {x1 x2 : Int32} {σ : St} (h : Ap (sp_97 x1 x2 σ) Q) : Ex sc CC 1 cd_97 Q 0 [some (.ref 0), some (.int x1), some (.int x2)] [] σ := by
  exact ve_97 monCC x1 x2 σ (cc_1 (n_bn h (fun r11 σ11 h => n_if h (fun h => cc_2 (n_bn h (fun r12 σ12 h => n_rt h))) (fun h => cc_1 (n_bn h (fun r13 σ13 h => n_ne h (fun h => cc_2 (n_bn h (fun r15 σ15 h => n_rt h))) (fun h => cc_98 (n_bn h (fun r14 σ14 h => n_rt h)))))))))
-- TradeTests.plan
set_option maxHeartbeats 20000000 in
set_option maxRecDepth 100000 in
theorem ve_100 {sc : Nat × (Nat → Int32)} {C : CT} (hC : MonC C) {Q : Int32 → St → Prop} (x1 : Int32) (σ : St) (v : (x1 < (-1) → C 2 [.ref 0, .int 1] σ (fun r15 σ15 => Q r15 σ15)) ∧ (¬ x1 < (-1) → (x1 < (σ 9 3) → C 101 [.ref 11] σ (fun r16 σ16 => C 102 [.ref 11] σ16 (fun r17 σ17 => (¬ x1 = (-1) → C 108 [.ref 11, .int x1] σ17 (fun r18 σ18 => (0 ≤ r18 → Q r18 σ18) ∧ (¬ 0 ≤ r18 → C 2 [.ref 0, .int 2] σ18 (fun r19 σ19 => Q r19 σ19)))) ∧ (x1 = (-1) → C 107 [.ref 11] σ17 (fun r20 σ20 => Q r20 σ20))))) ∧ (¬ x1 < (σ 9 3) → C 2 [.ref 0, .int 1] σ (fun r21 σ21 => Q r21 σ21)))) : Ex sc C 1 cd_100 Q 0 [some (.ref 0), some (.int x1), none] [] σ := wpn_Ex (cuts := []) hC (fun _ _ _ _ z => z) 30 0 _ _ _ v
set_option maxHeartbeats 20000000 in
set_option maxRecDepth 100000 in
theorem hp_100 {sc : Nat × (Nat → Int32)} {Q : Int32 → St → Prop} {x1 : Int32} {σ : St} (h : Ap (sp_100 x1 σ) Q) : Ex sc CC 1 cd_100 Q 0 [some (.ref 0), some (.int x1), none] [] σ := by
  exact ve_100 monCC x1 σ (n_if h (fun h => cc_2 (n_bn h (fun r15 σ15 h => n_rt h))) (fun h => n_if h (fun h => cc_101 (n_bn h (fun r16 σ16 h => cc_102 (n_bn h (fun r17 σ17 h => n_ne h (fun h => cc_107 (n_bn h (fun r20 σ20 h => n_rt h))) (fun h => cc_108 (n_bn h (fun r18 σ18 h => n_if h (fun h => n_rt h) (fun h => cc_2 (n_bn h (fun r19 σ19 h => n_rt h))))))))))) (fun h => cc_2 (n_bn h (fun r21 σ21 h => n_rt h)))))
