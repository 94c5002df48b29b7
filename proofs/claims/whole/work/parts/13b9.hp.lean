/-! the code does what the functions say (written by wip/whole/gen/spec.py) -/
-- TradeTestsModel.share
set_option maxHeartbeats 20000000 in
set_option maxRecDepth 100000 in
theorem ve_155 {sc : Nat × (Nat → Int32)} {C : CT} (hC : MonC C) {Q : Int32 → St → Prop} (x1 x2 : Int32) (σ : St) (v : C 123 [.int x1, .int 0, .int 3] σ (fun r13 σ13 => (r13 = 0 → C 125 [.ref 12, .int 1] σ13 (fun r14 σ14 => Q r14 σ14)) ∧ (¬ r13 = 0 → C 123 [.int x2, .int 0, .int 3] σ13 (fun r15 σ15 => (¬ r15 = 0 → C 156 [.ref 12, .int (((4 : Int32) * x1) + x2)] σ15 (fun r16 σ16 => (0 ≤ r16 → Q r16 σ16) ∧ (¬ 0 ≤ r16 → C 125 [.ref 12, .int 2] σ16 (fun r17 σ17 => Q r17 σ17)))) ∧ (r15 = 0 → C 125 [.ref 12, .int 1] σ15 (fun r18 σ18 => Q r18 σ18)))))) : Ex sc C 1 cd_155 Q 0 [some (.ref 12), some (.int x1), some (.int x2), none] [] σ := wpn_Ex (cuts := []) hC (fun _ _ _ _ z => z) 26 0 _ _ _ v
set_option maxHeartbeats 20000000 in
set_option maxRecDepth 100000 in
theorem hp_155 {sc : Nat × (Nat → Int32)} {Q : Int32 → St → Prop} {x1 x2 : Int32} {σ : St} (h : Ap (sp_155 x1 x2 σ) Q) : Ex sc CC 1 cd_155 Q 0 [some (.ref 12), some (.int x1), some (.int x2), none] [] σ := by
  exact ve_155 monCC x1 x2 σ (cc_123 (n_bn h (fun r13 σ13 h => n_if h (fun h => cc_125 (n_bn h (fun r14 σ14 h => n_rt h))) (fun h => cc_123 (n_bn h (fun r15 σ15 h => n_ne h (fun h => cc_125 (n_bn h (fun r18 σ18 h => n_rt h))) (fun h => cc_156 (n_bn h (fun r16 σ16 h => n_if h (fun h => n_rt h) (fun h => cc_125 (n_bn h (fun r17 σ17 h => n_rt h))))))))))))
-- TradeTestsModel.looked
set_option maxHeartbeats 20000000 in
set_option maxRecDepth 100000 in
set_option maxHeartbeats 20000000 in
set_option maxRecDepth 100000 in
theorem vh_159_4 {sc : Nat × (Nat → Int32)} {C : CT} (hC : MonC C) {Q : Int32 → St → Prop} (v1 : Int32) (v2 : Int32) (σ : St) (v : ((σ 12 4) ≤ v2 → C 160 [.int v1] σ (fun r5 σ5 => Q r5 σ5)) ∧ (¬ (σ 12 4) ≤ v2 → C 141 [.ref 12, .int v2] σ (fun r6 σ6 => Ex sc C 1 cd_159 Q 4 [some (.ref 12), some (.int (v1 ||| ((1 : Int32) <<< (r6 &&& 31)))), some (.int (v2 + 1))] [] σ6))) : Ex sc C 1 cd_159 Q 4 [some (.ref 12), some (.int v1), some (.int v2)] [] σ := stw_Ex (cuts := [4]) hC 15 v
theorem hl_159_4 {sc : Nat × (Nat → Int32)} {Q : Int32 → St → Prop} : ∀ (n : Nat) (v1 : Int32) (v2 : Int32) (σ : St), Ap (lp_159_4 n v1 v2 σ) Q → Ex sc CC 1 cd_159 Q 4 [some (.ref 12), some (.int v1), some (.int v2)] [] σ := by
  intro n
  induction n with
  | zero => intro v1 v2 σ h; exact n_no h
  | succ n ih =>
    intro v1 v2 σ h
    exact vh_159_4 monCC v1 v2 σ (n_if h (fun h => cc_160 (n_bn h (fun r5 σ5 h => n_rt h))) (fun h => cc_141 (n_bn h (fun r6 σ6 h => ih (v1 ||| ((1 : Int32) <<< (r6 &&& 31))) (v2 + 1) σ6 h))))
set_option maxHeartbeats 20000000 in
set_option maxRecDepth 100000 in
theorem ve_159 {sc : Nat × (Nat → Int32)} {C : CT} (hC : MonC C) {Q : Int32 → St → Prop}  (σ : St) (v : Ex sc C 1 cd_159 Q 4 [some (.ref 12), some (.int 0), some (.int 0)] [] σ) : Ex sc C 1 cd_159 Q 0 [some (.ref 12), none, none] [] σ := wpn_Ex (cuts := [4]) hC (fun _ _ _ _ z => z) 6 0 _ _ _ v
set_option maxHeartbeats 20000000 in
set_option maxRecDepth 100000 in
theorem hp_159 {sc : Nat × (Nat → Int32)} {Q : Int32 → St → Prop}  {σ : St} (h : Ap (sp_159  σ) Q) : Ex sc CC 1 cd_159 Q 0 [some (.ref 12), none, none] [] σ := by
  exact ve_159 monCC  σ (hl_159_4 FU 0 0 σ h)
-- TradeTestsModel.alikeOf
set_option maxHeartbeats 20000000 in
set_option maxRecDepth 100000 in
set_option maxHeartbeats 20000000 in
set_option maxRecDepth 100000 in
theorem vh_163_4 {sc : Nat × (Nat → Int32)} {C : CT} (hC : MonC C) {Q : Int32 → St → Prop} (v1 : Int32) (v2 : Int32) (v3 : Int32) (σ : St) (v : ((σ 12 4) ≤ v3 → Q v2 σ) ∧ (¬ (σ 12 4) ≤ v3 → vp_in v3 80 ∧ (vp_in v1 80 ∧ ((¬ (σ 60 (v3).toNatClampNeg) = (σ 60 (v1).toNatClampNeg) → Ex sc C 1 cd_163 Q 4 [some (.ref 12), some (.int v1), some (.int (v2 + 0)), some (.int (v3 + 1))] [] σ) ∧ ((σ 60 (v3).toNatClampNeg) = (σ 60 (v1).toNatClampNeg) → vp_in v3 80 ∧ (vp_in v1 80 ∧ (((σ 59 (v3).toNatClampNeg) = (σ 59 (v1).toNatClampNeg) → Ex sc C 1 cd_163 Q 4 [some (.ref 12), some (.int v1), some (.int (v2 + 0)), some (.int (v3 + 1))] [] σ) ∧ (¬ (σ 59 (v3).toNatClampNeg) = (σ 59 (v1).toNatClampNeg) → vp_in v1 80 ∧ (vp_in v3 80 ∧ (C 164 [.int (σ 61 (v1).toNatClampNeg), .int (σ 61 (v3).toNatClampNeg), .int 30] σ (fun r7 σ7 => (r7 = 0 → Ex sc C 1 cd_163 Q 4 [some (.ref 12), some (.int v1), some (.int (v2 + 0)), some (.int (v3 + 1))] [] σ7) ∧ (¬ r7 = 0 → vp_in v1 80 ∧ (vp_in v3 80 ∧ (C 164 [.int (σ7 65 (v1).toNatClampNeg), .int (σ7 65 (v3).toNatClampNeg), .int 1] σ7 (fun r8 σ8 => (r8 = 0 → Ex sc C 1 cd_163 Q 4 [some (.ref 12), some (.int v1), some (.int (v2 + 0)), some (.int (v3 + 1))] [] σ8) ∧ (¬ r8 = 0 → vp_in v1 80 ∧ (vp_in v3 80 ∧ (C 164 [.int (σ8 66 (v1).toNatClampNeg), .int (σ8 66 (v3).toNatClampNeg), .int 1] σ8 (fun r9 σ9 => (r9 = 0 → Ex sc C 1 cd_163 Q 4 [some (.ref 12), some (.int v1), some (.int (v2 + 0)), some (.int (v3 + 1))] [] σ9) ∧ (¬ r9 = 0 → Ex sc C 1 cd_163 Q 4 [some (.ref 12), some (.int v1), some (.int (v2 + 1)), some (.int (v3 + 1))] [] σ9)))))))))))))))))))) : Ex sc C 1 cd_163 Q 4 [some (.ref 12), some (.int v1), some (.int v2), some (.int v3)] [] σ := stw_Ex (cuts := [4]) hC 63 v
theorem hl_163_4 {sc : Nat × (Nat → Int32)} {Q : Int32 → St → Prop} : ∀ (n : Nat) (v1 : Int32) (v2 : Int32) (v3 : Int32) (σ : St), Ap (lp_163_4 n v1 v2 v3 σ) Q → Ex sc CC 1 cd_163 Q 4 [some (.ref 12), some (.int v1), some (.int v2), some (.int v3)] [] σ := by
  intro n
  induction n with
  | zero => intro v1 v2 v3 σ h; exact n_no h
  | succ n ih =>
    intro v1 v2 v3 σ h
    exact vh_163_4 monCC v1 v2 v3 σ (n_if h (fun h => n_rt h) (fun h => n_mb h (fun h => n_mb h (fun h => n_ne h (fun h => n_mb h (fun h => n_mb h (fun h => n_if h (fun h => ih v1 (v2 + 0) (v3 + 1) σ h) (fun h => n_mb h (fun h => n_mb h (fun h => cc_164 (n_bn h (fun r7 σ7 h => n_if h (fun h => ih v1 (v2 + 0) (v3 + 1) σ7 h) (fun h => n_mb h (fun h => n_mb h (fun h => cc_164 (n_bn h (fun r8 σ8 h => n_if h (fun h => ih v1 (v2 + 0) (v3 + 1) σ8 h) (fun h => n_mb h (fun h => n_mb h (fun h => cc_164 (n_bn h (fun r9 σ9 h => n_if h (fun h => ih v1 (v2 + 0) (v3 + 1) σ9 h) (fun h => ih v1 (v2 + 1) (v3 + 1) σ9 h))))))))))))))))))) (fun h => ih v1 (v2 + 0) (v3 + 1) σ h)))))
set_option maxHeartbeats 20000000 in
set_option maxRecDepth 100000 in
theorem ve_163 {sc : Nat × (Nat → Int32)} {C : CT} (hC : MonC C) {Q : Int32 → St → Prop} (x1 : Int32) (σ : St) (v : Ex sc C 1 cd_163 Q 4 [some (.ref 12), some (.int x1), some (.int 0), some (.int 0)] [] σ) : Ex sc C 1 cd_163 Q 0 [some (.ref 12), some (.int x1), none, none] [] σ := wpn_Ex (cuts := [4]) hC (fun _ _ _ _ z => z) 6 0 _ _ _ v
set_option maxHeartbeats 20000000 in
set_option maxRecDepth 100000 in
theorem hp_163 {sc : Nat × (Nat → Int32)} {Q : Int32 → St → Prop} {x1 : Int32} {σ : St} (h : Ap (sp_163 x1 σ) Q) : Ex sc CC 1 cd_163 Q 0 [some (.ref 12), some (.int x1), none, none] [] σ := by
  exact ve_163 monCC x1 σ (hl_163_4 FU x1 0 0 σ h)
-- TradeTestsModel.isShut
set_option maxHeartbeats 20000000 in
set_option maxRecDepth 100000 in
theorem ve_167 {sc : Nat × (Nat → Int32)} {C : CT} (hC : MonC C) {Q : Int32 → St → Prop} (x1 : Int32) (σ : St) (v : C 141 [.ref 12, .int x1] σ (fun r3 σ3 => vp_in x1 80 ∧ (vp_in r3 6 ∧ (((σ3 62 (x1).toNatClampNeg) < (σ3 53 (r3).toNatClampNeg) → ((1 : Int32) = 0 ∨ (1 : Int32) = 1) ∧ Q 1 σ3) ∧ (¬ (σ3 62 (x1).toNatClampNeg) < (σ3 53 (r3).toNatClampNeg) → vp_in x1 80 ∧ (vp_in x1 80 ∧ (vp_in r3 6 ∧ ((((σ3 62 (x1).toNatClampNeg) + (σ3 63 (x1).toNatClampNeg)) ≤ (σ3 54 (r3).toNatClampNeg) → ((0 : Int32) = 0 ∨ (0 : Int32) = 1) ∧ Q 0 σ3) ∧ (¬ ((σ3 62 (x1).toNatClampNeg) + (σ3 63 (x1).toNatClampNeg)) ≤ (σ3 54 (r3).toNatClampNeg) → ((1 : Int32) = 0 ∨ (1 : Int32) = 1) ∧ Q 1 σ3))))))))) : Ex sc C 2 cd_167 Q 0 [some (.ref 12), some (.int x1), none] [] σ := wpn_Ex (cuts := []) hC (fun _ _ _ _ z => z) 31 0 _ _ _ v
set_option maxHeartbeats 20000000 in
set_option maxRecDepth 100000 in
theorem hp_167 {sc : Nat × (Nat → Int32)} {Q : Int32 → St → Prop} {x1 : Int32} {σ : St} (h : Ap (sp_167 x1 σ) Q) : Ex sc CC 2 cd_167 Q 0 [some (.ref 12), some (.int x1), none] [] σ := by
  exact ve_167 monCC x1 σ (cc_141 (n_bn h (fun r3 σ3 h => n_mb h (fun h => n_mb h (fun h => n_if h (fun h => n_rb h) (fun h => n_mb h (fun h => n_mb h (fun h => n_mb h (fun h => n_if h (fun h => n_rb h) (fun h => n_rb h))))))))))
-- TradeTestsModel.falls
set_option maxHeartbeats 20000000 in
set_option maxRecDepth 100000 in
set_option maxHeartbeats 20000000 in
set_option maxRecDepth 100000 in
theorem vh_170_105 {sc : Nat × (Nat → Int32)} {C : CT} (hC : MonC C) {Q : Int32 → St → Prop} (v1 : Int32) (v2 : Int32) (v3 : Int32) (v4 : Int32) (σ : St) (v : (v4 ≤ v1 → vp_in v1 80 ∧ (vp_in v2 80 ∧ (((σ 12 4) ≤ v3 → C 171 [.int (σ 64 (v1).toNatClampNeg), .int (σ 64 (v2).toNatClampNeg), .int 999999] σ (fun r11 σ11 => (r11 = 0 → Q 2 σ11) ∧ (¬ r11 = 0 → Q 1 σ11))) ∧ (¬ (σ 12 4) ≤ v3 → vp_in v3 80 ∧ (C 171 [.int (σ 64 (v1).toNatClampNeg), .int (σ 64 (v2).toNatClampNeg), .int (σ 64 (v3).toNatClampNeg)] σ (fun r12 σ12 => (r12 = 0 → Q 2 σ12) ∧ (¬ r12 = 0 → Q 1 σ12))))))) ∧ (¬ v4 ≤ v1 → vp_in v4 80 ∧ (vp_in v1 80 ∧ ((¬ (σ 59 (v4).toNatClampNeg) = (σ 59 (v1).toNatClampNeg) → Ex sc C 1 cd_170 Q 105 [some (.ref 12), some (.int v1), some (.int v2), some (.int v3), some (.int (v4 + (-1)))] [] σ) ∧ ((σ 59 (v4).toNatClampNeg) = (σ 59 (v1).toNatClampNeg) → Ex sc C 1 cd_170 Q 105 [some (.ref 12), some (.int v1), some (.int v2), some (.int v4), some (.int (v4 + (-1)))] [] σ))))) : Ex sc C 1 cd_170 Q 105 [some (.ref 12), some (.int v1), some (.int v2), some (.int v3), some (.int v4)] [] σ := stw_Ex (cuts := [39, 105]) hC 25 v
theorem hl_170_105 {sc : Nat × (Nat → Int32)} {Q : Int32 → St → Prop} : ∀ (n : Nat) (v1 : Int32) (v2 : Int32) (v3 : Int32) (v4 : Int32) (σ : St), Ap (lp_170_105 n v1 v2 v3 v4 σ) Q → Ex sc CC 1 cd_170 Q 105 [some (.ref 12), some (.int v1), some (.int v2), some (.int v3), some (.int v4)] [] σ := by
  intro n
  induction n with
  | zero => intro v1 v2 v3 v4 σ h; exact n_no h
  | succ n ih =>
    intro v1 v2 v3 v4 σ h
    exact vh_170_105 monCC v1 v2 v3 v4 σ (n_if h (fun h => n_mb h (fun h => n_mb h (fun h => n_if h (fun h => cc_171 (n_bn h (fun r11 σ11 h => n_if h (fun h => n_rt h) (fun h => n_rt h)))) (fun h => n_mb h (fun h => cc_171 (n_bn h (fun r12 σ12 h => n_if h (fun h => n_rt h) (fun h => n_rt h)))))))) (fun h => n_mb h (fun h => n_mb h (fun h => n_ne h (fun h => ih v1 v2 v4 (v4 + (-1)) σ h) (fun h => ih v1 v2 v3 (v4 + (-1)) σ h)))))
set_option maxHeartbeats 20000000 in
set_option maxRecDepth 100000 in
set_option maxHeartbeats 20000000 in
set_option maxRecDepth 100000 in
theorem vh_170_39 {sc : Nat × (Nat → Int32)} {C : CT} (hC : MonC C) {Q : Int32 → St → Prop} (v1 : Int32) (v2 : Int32) (v3 : Int32) (σ : St) (v : (v1 ≤ v3 → (v2 < 0 → Q 0 σ) ∧ (¬ v2 < 0 → vp_in v1 80 ∧ (vp_in v2 80 ∧ (((σ 64 (v1).toNatClampNeg) < (σ 64 (v2).toNatClampNeg) → Ex sc C 1 cd_170 Q 105 [some (.ref 12), some (.int v1), some (.int v2), some (.int (σ 12 4)), some (.int ((σ 12 4) - 1))] [] σ) ∧ (¬ (σ 64 (v1).toNatClampNeg) < (σ 64 (v2).toNatClampNeg) → Q 0 σ))))) ∧ (¬ v1 ≤ v3 → vp_in v3 80 ∧ (vp_in v1 80 ∧ ((¬ (σ 59 (v3).toNatClampNeg) = (σ 59 (v1).toNatClampNeg) → Ex sc C 1 cd_170 Q 39 [some (.ref 12), some (.int v1), some (.int v2), some (.int (v3 + 1)), none] [] σ) ∧ ((σ 59 (v3).toNatClampNeg) = (σ 59 (v1).toNatClampNeg) → Ex sc C 1 cd_170 Q 39 [some (.ref 12), some (.int v1), some (.int v3), some (.int (v3 + 1)), none] [] σ))))) : Ex sc C 1 cd_170 Q 39 [some (.ref 12), some (.int v1), some (.int v2), some (.int v3), none] [] σ := stw_Ex (cuts := [39, 105]) hC 23 v
theorem hl_170_39 {sc : Nat × (Nat → Int32)} {Q : Int32 → St → Prop} : ∀ (n : Nat) (v1 : Int32) (v2 : Int32) (v3 : Int32) (σ : St), Ap (lp_170_39 n v1 v2 v3 σ) Q → Ex sc CC 1 cd_170 Q 39 [some (.ref 12), some (.int v1), some (.int v2), some (.int v3), none] [] σ := by
  intro n
  induction n with
  | zero => intro v1 v2 v3 σ h; exact n_no h
  | succ n ih =>
    intro v1 v2 v3 σ h
    exact vh_170_39 monCC v1 v2 v3 σ (n_if h (fun h => n_if h (fun h => n_rt h) (fun h => n_mb h (fun h => n_mb h (fun h => n_if h (fun h => hl_170_105 FU v1 v2 (σ 12 4) ((σ 12 4) - 1) σ h) (fun h => n_rt h))))) (fun h => n_mb h (fun h => n_mb h (fun h => n_ne h (fun h => ih v1 v3 (v3 + 1) σ h) (fun h => ih v1 v2 (v3 + 1) σ h)))))
set_option maxHeartbeats 20000000 in
set_option maxRecDepth 100000 in
theorem ve_170 {sc : Nat × (Nat → Int32)} {C : CT} (hC : MonC C) {Q : Int32 → St → Prop} (x1 : Int32) (σ : St) (v : C 140 [.ref 12, .int x1] σ (fun r13 σ13 => (¬ r13 = 0 → vp_in x1 80 ∧ (vp_in (σ13 59 (x1).toNatClampNeg) 24 ∧ ((¬ (σ13 50 (σ13 59 (x1).toNatClampNeg).toNatClampNeg) = 3 → Ex sc C 1 cd_170 Q 39 [some (.ref 12), some (.int x1), some (.int (-1)), some (.int 0), none] [] σ13) ∧ ((σ13 50 (σ13 59 (x1).toNatClampNeg).toNatClampNeg) = 3 → C 125 [.ref 12, .int 5] σ13 (fun r14 σ14 => Q r14 σ14))))) ∧ (r13 = 0 → C 125 [.ref 12, .int 1] σ13 (fun r15 σ15 => Q r15 σ15)))) : Ex sc C 1 cd_170 Q 0 [some (.ref 12), some (.int x1), none, none, none] [] σ := wpn_Ex (cuts := [39, 105]) hC (fun _ _ _ _ z => z) 19 0 _ _ _ v
set_option maxHeartbeats 20000000 in
set_option maxRecDepth 100000 in
theorem hp_170 {sc : Nat × (Nat → Int32)} {Q : Int32 → St → Prop} {x1 : Int32} {σ : St} (h : Ap (sp_170 x1 σ) Q) : Ex sc CC 1 cd_170 Q 0 [some (.ref 12), some (.int x1), none, none, none] [] σ := by
  exact ve_170 monCC x1 σ (cc_140 (n_bn h (fun r13 σ13 h => n_ne h (fun h => cc_125 (n_bn h (fun r15 σ15 h => n_rt h))) (fun h => n_mb h (fun h => n_mb h (fun h => n_ne h (fun h => cc_125 (n_bn h (fun r14 σ14 h => n_rt h))) (fun h => hl_170_39 FU x1 (-1) 0 σ13 h)))))))
