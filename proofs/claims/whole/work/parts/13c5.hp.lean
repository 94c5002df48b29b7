/-! the code does what the functions say (written by wip/whole/gen/spec.py) -/
-- TradeTests.leans
set_option maxHeartbeats 20000000 in
set_option maxRecDepth 100000 in
set_option maxHeartbeats 20000000 in
set_option maxRecDepth 100000 in
theorem vh_115_59 {sc : Nat × (Nat → Int32)} {C : CT} (hC : MonC C) {Q : Int32 → St → Prop} (v1 : Int32) (v2 : Int32) (v3 : Int32) (v4 : Int32) (σ : St) (v : ((σ 1 3) ≤ v4 → Q v3 σ) ∧ (¬ (σ 1 3) ≤ v4 → C 116 [.ref 5, .int v4, .int v2] σ (fun r13 σ13 => (r13 = 0 → Ex sc C 1 cd_115 Q 59 [some (.ref 0), some (.int v1), some (.int v2), some (.int v3), some (.int (v4 + 1))] [] σ13) ∧ (¬ r13 = 0 → Ex sc C 1 cd_115 Q 59 [some (.ref 0), some (.int v1), some (.int v2), some (.int (v3 + 1)), some (.int (v4 + 1))] [] σ13)))) : Ex sc C 1 cd_115 Q 59 [some (.ref 0), some (.int v1), some (.int v2), some (.int v3), some (.int v4)] [] σ := stw_Ex (cuts := [59]) hC 15 v
theorem hl_115_59 {sc : Nat × (Nat → Int32)} {Q : Int32 → St → Prop} : ∀ (n : Nat) (v1 : Int32) (v2 : Int32) (v3 : Int32) (v4 : Int32) (σ : St), Ap (lp_115_59 n v1 v2 v3 v4 σ) Q → Ex sc CC 1 cd_115 Q 59 [some (.ref 0), some (.int v1), some (.int v2), some (.int v3), some (.int v4)] [] σ := by
  intro n
  induction n with
  | zero => intro v1 v2 v3 v4 σ h; exact n_no h
  | succ n ih =>
    intro v1 v2 v3 v4 σ h
    exact vh_115_59 monCC v1 v2 v3 v4 σ (n_if h (fun h => n_rt h) (fun h => cc_116 (n_bn h (fun r13 σ13 h => n_if h (fun h => ih v1 v2 v3 (v4 + 1) σ13 h) (fun h => ih v1 v2 (v3 + 1) (v4 + 1) σ13 h)))))
set_option maxHeartbeats 20000000 in
set_option maxRecDepth 100000 in
theorem ve_115 {sc : Nat × (Nat → Int32)} {C : CT} (hC : MonC C) {Q : Int32 → St → Prop} (x1 x2 : Int32) (σ : St) (v : (x1 < (-1) → C 2 [.ref 0, .int 1] σ (fun r14 σ14 => Q r14 σ14)) ∧ (¬ x1 < (-1) → ((σ 1 3) ≤ x1 → C 2 [.ref 0, .int 1] σ (fun r15 σ15 => Q r15 σ15)) ∧ (¬ (σ 1 3) ≤ x1 → C 1 [.int x2, .int 10000] σ (fun r16 σ16 => (¬ r16 = 0 → (x1 < 0 → Ex sc C 1 cd_115 Q 59 [some (.ref 0), some (.int x1), some (.int x2), some (.int 0), some (.int 0)] [] σ16) ∧ (¬ x1 < 0 → C 116 [.ref 5, .int x1, .int x2] σ16 (fun r17 σ17 => (r17 = 0 → Q 0 σ17) ∧ (¬ r17 = 0 → Q 1 σ17)))) ∧ (r16 = 0 → C 2 [.ref 0, .int 1] σ16 (fun r18 σ18 => Q r18 σ18)))))) : Ex sc C 1 cd_115 Q 0 [some (.ref 0), some (.int x1), some (.int x2), none, none] [] σ := wpn_Ex (cuts := [59]) hC (fun _ _ _ _ z => z) 24 0 _ _ _ v
set_option maxHeartbeats 20000000 in
set_option maxRecDepth 100000 in
theorem hp_115 {sc : Nat × (Nat → Int32)} {Q : Int32 → St → Prop} {x1 x2 : Int32} {σ : St} (h : Ap (sp_115 x1 x2 σ) Q) : Ex sc CC 1 cd_115 Q 0 [some (.ref 0), some (.int x1), some (.int x2), none, none] [] σ := by
  exact ve_115 monCC x1 x2 σ (n_if h (fun h => cc_2 (n_bn h (fun r14 σ14 h => n_rt h))) (fun h => n_if h (fun h => cc_2 (n_bn h (fun r15 σ15 h => n_rt h))) (fun h => cc_1 (n_bn h (fun r16 σ16 h => n_ne h (fun h => cc_2 (n_bn h (fun r18 σ18 h => n_rt h))) (fun h => n_if h (fun h => hl_115_59 FU x1 x2 0 0 σ16 h) (fun h => cc_116 (n_bn h (fun r17 σ17 h => n_if h (fun h => n_rt h) (fun h => n_rt h))))))))))
-- TradeTests$Signals.testsWithSigns
set_option maxHeartbeats 20000000 in
set_option maxRecDepth 100000 in
set_option maxHeartbeats 20000000 in
set_option maxRecDepth 100000 in
theorem vh_120_4 {sc : Nat × (Nat → Int32)} {C : CT} (hC : MonC C) {Q : Int32 → St → Prop} (v1 : Int32) (v2 : Int32) (σ : St) (v : ((σ 3 14) ≤ v2 → Q v1 σ) ∧ (¬ (σ 3 14) ≤ v2 → C 50 [.ref 6, .int v2] σ (fun r3 σ3 => (r3 = 0 → Ex sc C 1 cd_120 Q 4 [some (.ref 6), some (.int v1), some (.int (v2 + 1))] [] σ3) ∧ (¬ r3 = 0 → Ex sc C 1 cd_120 Q 4 [some (.ref 6), some (.int (v1 + 1)), some (.int (v2 + 1))] [] σ3)))) : Ex sc C 1 cd_120 Q 4 [some (.ref 6), some (.int v1), some (.int v2)] [] σ := stw_Ex (cuts := [4]) hC 13 v
theorem hl_120_4 {sc : Nat × (Nat → Int32)} {Q : Int32 → St → Prop} : ∀ (n : Nat) (v1 : Int32) (v2 : Int32) (σ : St), Ap (lp_120_4 n v1 v2 σ) Q → Ex sc CC 1 cd_120 Q 4 [some (.ref 6), some (.int v1), some (.int v2)] [] σ := by
  intro n
  induction n with
  | zero => intro v1 v2 σ h; exact n_no h
  | succ n ih =>
    intro v1 v2 σ h
    exact vh_120_4 monCC v1 v2 σ (n_if h (fun h => n_rt h) (fun h => cc_50 (n_bn h (fun r3 σ3 h => n_if h (fun h => ih v1 (v2 + 1) σ3 h) (fun h => ih (v1 + 1) (v2 + 1) σ3 h)))))
set_option maxHeartbeats 20000000 in
set_option maxRecDepth 100000 in
theorem ve_120 {sc : Nat × (Nat → Int32)} {C : CT} (hC : MonC C) {Q : Int32 → St → Prop}  (σ : St) (v : Ex sc C 1 cd_120 Q 4 [some (.ref 6), some (.int 0), some (.int 0)] [] σ) : Ex sc C 1 cd_120 Q 0 [some (.ref 6), none, none] [] σ := wpn_Ex (cuts := [4]) hC (fun _ _ _ _ z => z) 6 0 _ _ _ v
set_option maxHeartbeats 20000000 in
set_option maxRecDepth 100000 in
theorem hp_120 {sc : Nat × (Nat → Int32)} {Q : Int32 → St → Prop}  {σ : St} (h : Ap (sp_120  σ) Q) : Ex sc CC 1 cd_120 Q 0 [some (.ref 6), none, none] [] σ := by
  exact ve_120 monCC  σ (hl_120_4 FU 0 0 σ h)
-- TradeTestsModel.riskOf
set_option maxHeartbeats 20000000 in
set_option maxRecDepth 100000 in
set_option maxHeartbeats 20000000 in
set_option maxRecDepth 100000 in
theorem vh_161_4 {sc : Nat × (Nat → Int32)} {C : CT} (hC : MonC C) {Q : Int32 → St → Prop} (v1 : Int32) (v2 : Int32) (v3 : Int32) (σ : St) (v : ((σ 12 4) ≤ v3 → Q v2 σ) ∧ (¬ (σ 12 4) ≤ v3 → C 141 [.ref 12, .int v3] σ (fun r7 σ7 => (¬ r7 = v1 → Ex sc C 1 cd_161 Q 4 [some (.ref 12), some (.int v1), some (.int (v2 + 0)), some (.int (v3 + 1))] [] σ7) ∧ (r7 = v1 → C 162 [.ref 12, .int v3] σ7 (fun r8 σ8 => C 160 [.int r8] σ8 (fun r9 σ9 => Ex sc C 1 cd_161 Q 4 [some (.ref 12), some (.int v1), some (.int (v2 + r9)), some (.int (v3 + 1))] [] σ9)))))) : Ex sc C 1 cd_161 Q 4 [some (.ref 12), some (.int v1), some (.int v2), some (.int v3)] [] σ := stw_Ex (cuts := [4]) hC 20 v
theorem hl_161_4 {sc : Nat × (Nat → Int32)} {Q : Int32 → St → Prop} : ∀ (n : Nat) (v1 : Int32) (v2 : Int32) (v3 : Int32) (σ : St), Ap (lp_161_4 n v1 v2 v3 σ) Q → Ex sc CC 1 cd_161 Q 4 [some (.ref 12), some (.int v1), some (.int v2), some (.int v3)] [] σ := by
  intro n
  induction n with
  | zero => intro v1 v2 v3 σ h; exact n_no h
  | succ n ih =>
    intro v1 v2 v3 σ h
    exact vh_161_4 monCC v1 v2 v3 σ (n_if h (fun h => n_rt h) (fun h => cc_141 (n_bn h (fun r7 σ7 h => n_ne h (fun h => cc_162 (n_bn h (fun r8 σ8 h => cc_160 (n_bn h (fun r9 σ9 h => ih v1 (v2 + r9) (v3 + 1) σ9 h))))) (fun h => ih v1 (v2 + 0) (v3 + 1) σ7 h)))))
set_option maxHeartbeats 20000000 in
set_option maxRecDepth 100000 in
theorem ve_161 {sc : Nat × (Nat → Int32)} {C : CT} (hC : MonC C) {Q : Int32 → St → Prop} (x1 : Int32) (σ : St) (v : Ex sc C 1 cd_161 Q 4 [some (.ref 12), some (.int x1), some (.int 1), some (.int 0)] [] σ) : Ex sc C 1 cd_161 Q 0 [some (.ref 12), some (.int x1), none, none] [] σ := wpn_Ex (cuts := [4]) hC (fun _ _ _ _ z => z) 6 0 _ _ _ v
set_option maxHeartbeats 20000000 in
set_option maxRecDepth 100000 in
theorem hp_161 {sc : Nat × (Nat → Int32)} {Q : Int32 → St → Prop} {x1 : Int32} {σ : St} (h : Ap (sp_161 x1 σ) Q) : Ex sc CC 1 cd_161 Q 0 [some (.ref 12), some (.int x1), none, none] [] σ := by
  exact ve_161 monCC x1 σ (hl_161_4 FU x1 1 0 σ h)
-- TradeTestsModel.signs
set_option maxHeartbeats 20000000 in
set_option maxRecDepth 100000 in
theorem ve_168 {sc : Nat × (Nat → Int32)} {C : CT} (hC : MonC C) {Q : Int32 → St → Prop} (x1 : Int32) (σ : St) (v : C 140 [.ref 12, .int x1] σ (fun r7 σ7 => (r7 = 0 → C 125 [.ref 12, .int 1] σ7 (fun r8 σ8 => Q r8 σ8)) ∧ (¬ r7 = 0 → C 162 [.ref 12, .int x1] σ7 (fun r9 σ9 => Q r9 σ9)))) : Ex sc C 1 cd_168 Q 0 [some (.ref 12), some (.int x1)] [] σ := wpn_Ex (cuts := []) hC (fun _ _ _ _ z => z) 10 0 _ _ _ v
set_option maxHeartbeats 20000000 in
set_option maxRecDepth 100000 in
theorem hp_168 {sc : Nat × (Nat → Int32)} {Q : Int32 → St → Prop} {x1 : Int32} {σ : St} (h : Ap (sp_168 x1 σ) Q) : Ex sc CC 1 cd_168 Q 0 [some (.ref 12), some (.int x1)] [] σ := by
  exact ve_168 monCC x1 σ (cc_140 (n_bn h (fun r7 σ7 h => n_if h (fun h => cc_125 (n_bn h (fun r8 σ8 h => n_rt h))) (fun h => cc_162 (n_bn h (fun r9 σ9 h => n_rt h))))))
-- TradeTestsModel.points
set_option maxHeartbeats 20000000 in
set_option maxRecDepth 100000 in
theorem ve_174 {sc : Nat × (Nat → Int32)} {C : CT} (hC : MonC C) {Q : Int32 → St → Prop} (x1 : Int32) (σ : St) (v : C 140 [.ref 12, .int x1] σ (fun r7 σ7 => (r7 = 0 → C 125 [.ref 12, .int 1] σ7 (fun r8 σ8 => Q r8 σ8)) ∧ (¬ r7 = 0 → C 175 [.ref 12, .int x1] σ7 (fun r9 σ9 => Q r9 σ9)))) : Ex sc C 1 cd_174 Q 0 [some (.ref 12), some (.int x1)] [] σ := wpn_Ex (cuts := []) hC (fun _ _ _ _ z => z) 10 0 _ _ _ v
set_option maxHeartbeats 20000000 in
set_option maxRecDepth 100000 in
theorem hp_174 {sc : Nat × (Nat → Int32)} {Q : Int32 → St → Prop} {x1 : Int32} {σ : St} (h : Ap (sp_174 x1 σ) Q) : Ex sc CC 1 cd_174 Q 0 [some (.ref 12), some (.int x1)] [] σ := by
  exact ve_174 monCC x1 σ (cc_140 (n_bn h (fun r7 σ7 h => n_if h (fun h => cc_125 (n_bn h (fun r8 σ8 h => n_rt h))) (fun h => cc_175 (n_bn h (fun r9 σ9 h => n_rt h))))))
-- TradeTestsModel.findPoints
set_option maxHeartbeats 20000000 in
set_option maxRecDepth 100000 in
set_option maxHeartbeats 20000000 in
set_option maxRecDepth 100000 in
theorem vh_178_2 {sc : Nat × (Nat → Int32)} {C : CT} (hC : MonC C) {Q : Int32 → St → Prop} (v1 : Int32) (σ : St) (v : ((σ 12 4) ≤ v1 → Q 0 σ) ∧ (¬ (σ 12 4) ≤ v1 → C 175 [.ref 12, .int v1] σ (fun r3 σ3 => vp_in v1 80 ∧ (Ex sc C 0 cd_178 Q 2 [some (.ref 12), some (.int (v1 + 1))] [] (up σ3 81 (v1).toNatClampNeg r3))))) : Ex sc C 0 cd_178 Q 2 [some (.ref 12), some (.int v1)] [] σ := stw_Ex (cuts := [2]) hC 14 v
theorem hl_178_2 {sc : Nat × (Nat → Int32)} {Q : Int32 → St → Prop} : ∀ (n : Nat) (v1 : Int32) (σ : St), Ap (lp_178_2 n v1 σ) Q → Ex sc CC 0 cd_178 Q 2 [some (.ref 12), some (.int v1)] [] σ := by
  intro n
  induction n with
  | zero => intro v1 σ h; exact n_no h
  | succ n ih =>
    intro v1 σ h
    exact vh_178_2 monCC v1 σ (n_if h (fun h => n_rt h) (fun h => cc_175 (n_bn h (fun r3 σ3 h => n_mb h (fun h => ih (v1 + 1) (up σ3 81 (v1).toNatClampNeg r3) h)))))
set_option maxHeartbeats 20000000 in
set_option maxRecDepth 100000 in
theorem ve_178 {sc : Nat × (Nat → Int32)} {C : CT} (hC : MonC C) {Q : Int32 → St → Prop}  (σ : St) (v : Ex sc C 0 cd_178 Q 2 [some (.ref 12), some (.int 0)] [] σ) : Ex sc C 0 cd_178 Q 0 [some (.ref 12), none] [] σ := wpn_Ex (cuts := [2]) hC (fun _ _ _ _ z => z) 4 0 _ _ _ v
set_option maxHeartbeats 20000000 in
set_option maxRecDepth 100000 in
theorem hp_178 {sc : Nat × (Nat → Int32)} {Q : Int32 → St → Prop}  {σ : St} (h : Ap (sp_178  σ) Q) : Ex sc CC 0 cd_178 Q 0 [some (.ref 12), none] [] σ := by
  exact ve_178 monCC  σ (hl_178_2 FU 0 σ h)
-- TradeTestsModel.leans
set_option maxHeartbeats 20000000 in
set_option maxRecDepth 100000 in
set_option maxHeartbeats 20000000 in
set_option maxRecDepth 100000 in
theorem vh_189_43 {sc : Nat × (Nat → Int32)} {C : CT} (hC : MonC C) {Q : Int32 → St → Prop} (v1 : Int32) (v2 : Int32) (v3 : Int32) (v4 : Int32) (σ : St) (v : ((σ 12 0) ≤ v4 → Q v3 σ) ∧ (¬ (σ 12 0) ≤ v4 → C 190 [.ref 12, .int v4, .int v2] σ (fun r13 σ13 => Ex sc C 1 cd_189 Q 43 [some (.ref 12), some (.int v1), some (.int v2), some (.int (v3 + r13)), some (.int (v4 + 1))] [] σ13))) : Ex sc C 1 cd_189 Q 43 [some (.ref 12), some (.int v1), some (.int v2), some (.int v3), some (.int v4)] [] σ := stw_Ex (cuts := [43]) hC 14 v
theorem hl_189_43 {sc : Nat × (Nat → Int32)} {Q : Int32 → St → Prop} : ∀ (n : Nat) (v1 : Int32) (v2 : Int32) (v3 : Int32) (v4 : Int32) (σ : St), Ap (lp_189_43 n v1 v2 v3 v4 σ) Q → Ex sc CC 1 cd_189 Q 43 [some (.ref 12), some (.int v1), some (.int v2), some (.int v3), some (.int v4)] [] σ := by
  intro n
  induction n with
  | zero => intro v1 v2 v3 v4 σ h; exact n_no h
  | succ n ih =>
    intro v1 v2 v3 v4 σ h
    exact vh_189_43 monCC v1 v2 v3 v4 σ (n_if h (fun h => n_rt h) (fun h => cc_190 (n_bn h (fun r13 σ13 h => ih v1 v2 (v3 + r13) (v4 + 1) σ13 h))))
set_option maxHeartbeats 20000000 in
set_option maxRecDepth 100000 in
theorem ve_189 {sc : Nat × (Nat → Int32)} {C : CT} (hC : MonC C) {Q : Int32 → St → Prop} (x1 x2 : Int32) (σ : St) (v : C 123 [.int x1, .int (-1), .int ((σ 12 0) - 1)] σ (fun r14 σ14 => (r14 = 0 → C 125 [.ref 12, .int 1] σ14 (fun r15 σ15 => Q r15 σ15)) ∧ (¬ r14 = 0 → C 124 [.int x2] σ14 (fun r16 σ16 => (¬ r16 = 0 → (x1 < 0 → Ex sc C 1 cd_189 Q 43 [some (.ref 12), some (.int x1), some (.int x2), some (.int 0), some (.int 0)] [] σ16) ∧ (¬ x1 < 0 → C 190 [.ref 12, .int x1, .int x2] σ16 (fun r17 σ17 => Q r17 σ17))) ∧ (r16 = 0 → C 125 [.ref 12, .int 1] σ16 (fun r18 σ18 => Q r18 σ18)))))) : Ex sc C 1 cd_189 Q 0 [some (.ref 12), some (.int x1), some (.int x2), none, none] [] σ := wpn_Ex (cuts := [43]) hC (fun _ _ _ _ z => z) 19 0 _ _ _ v
set_option maxHeartbeats 20000000 in
set_option maxRecDepth 100000 in
theorem hp_189 {sc : Nat × (Nat → Int32)} {Q : Int32 → St → Prop} {x1 x2 : Int32} {σ : St} (h : Ap (sp_189 x1 x2 σ) Q) : Ex sc CC 1 cd_189 Q 0 [some (.ref 12), some (.int x1), some (.int x2), none, none] [] σ := by
  exact ve_189 monCC x1 x2 σ (cc_123 (n_bn h (fun r14 σ14 h => n_if h (fun h => cc_125 (n_bn h (fun r15 σ15 h => n_rt h))) (fun h => cc_124 (n_bn h (fun r16 σ16 h => n_ne h (fun h => cc_125 (n_bn h (fun r18 σ18 h => n_rt h))) (fun h => n_if h (fun h => hl_189_43 FU x1 x2 0 0 σ16 h) (fun h => cc_190 (n_bn h (fun r17 σ17 h => n_rt h))))))))))
