/-! the code does what the functions say (written by wip/whole/gen/spec.py) -/
-- TradeTestsModel.rule
set_option maxHeartbeats 20000000 in
set_option maxRecDepth 100000 in
set_option maxHeartbeats 20000000 in
set_option maxRecDepth 100000 in
theorem vh_172_108 {sc : Nat × (Nat → Int32)} {C : CT} (hC : MonC C) {Q : Int32 → St → Prop} (v1 : Int32) (v2 : Int32) (v3 : Int32) (σ : St) (v : (¬ v1 = 2 → Q v3 (up σ 12 13 (σ 12 13))) ∧ (v1 = 2 → Q v3 (up σ 12 13 v2))) : Ex sc C 1 cd_172 Q 108 [some (.ref 12), some (.int v1), some (.int v2), some (.int v3)] [] σ := stw_Ex (cuts := [47, 75, 91, 108]) hC 9 v
theorem hl_172_108 {sc : Nat × (Nat → Int32)} {Q : Int32 → St → Prop} : ∀ (v1 : Int32) (v2 : Int32) (v3 : Int32) (σ : St), Ap (lp_172_108 v1 v2 v3 σ) Q → Ex sc CC 1 cd_172 Q 108 [some (.ref 12), some (.int v1), some (.int v2), some (.int v3)] [] σ := by
  intro v1 v2 v3 σ h
  exact vh_172_108 monCC v1 v2 v3 σ (n_ne h (fun h => n_rt h) (fun h => n_rt h))
set_option maxHeartbeats 20000000 in
set_option maxRecDepth 100000 in
set_option maxHeartbeats 20000000 in
set_option maxRecDepth 100000 in
theorem vh_172_91 {sc : Nat × (Nat → Int32)} {C : CT} (hC : MonC C) {Q : Int32 → St → Prop} (v1 : Int32) (v2 : Int32) (v3 : Int32) (σ : St) (v : (¬ v1 = 1 → Ex sc C 1 cd_172 Q 108 [some (.ref 12), some (.int v1), some (.int v2), some (.int v3)] [] (up σ 12 12 (σ 12 12))) ∧ (v1 = 1 → Ex sc C 1 cd_172 Q 108 [some (.ref 12), some (.int v1), some (.int v2), some (.int v3)] [] (up σ 12 12 v2))) : Ex sc C 1 cd_172 Q 91 [some (.ref 12), some (.int v1), some (.int v2), some (.int v3)] [] σ := stw_Ex (cuts := [47, 75, 91, 108]) hC 8 v
theorem hl_172_91 {sc : Nat × (Nat → Int32)} {Q : Int32 → St → Prop} : ∀ (v1 : Int32) (v2 : Int32) (v3 : Int32) (σ : St), Ap (lp_172_91 v1 v2 v3 σ) Q → Ex sc CC 1 cd_172 Q 91 [some (.ref 12), some (.int v1), some (.int v2), some (.int v3)] [] σ := by
  intro v1 v2 v3 σ h
  exact vh_172_91 monCC v1 v2 v3 σ (n_ne h (fun h => hl_172_108 v1 v2 v3 (up σ 12 12 v2) h) (fun h => hl_172_108 v1 v2 v3 (up σ 12 12 (σ 12 12)) h))
set_option maxHeartbeats 20000000 in
set_option maxRecDepth 100000 in
set_option maxHeartbeats 20000000 in
set_option maxRecDepth 100000 in
theorem vh_172_75 {sc : Nat × (Nat → Int32)} {C : CT} (hC : MonC C) {Q : Int32 → St → Prop} (v1 : Int32) (v2 : Int32) (v3 : Int32) (σ : St) (v : (¬ v1 = 0 → Ex sc C 1 cd_172 Q 91 [some (.ref 12), some (.int v1), some (.int v2), some (.int v3)] [] (up σ 12 11 (σ 12 11))) ∧ (v1 = 0 → Ex sc C 1 cd_172 Q 91 [some (.ref 12), some (.int v1), some (.int v2), some (.int v3)] [] (up σ 12 11 v2))) : Ex sc C 1 cd_172 Q 75 [some (.ref 12), some (.int v1), some (.int v2), some (.int v3)] [] σ := stw_Ex (cuts := [47, 75, 91, 108]) hC 7 v
theorem hl_172_75 {sc : Nat × (Nat → Int32)} {Q : Int32 → St → Prop} : ∀ (v1 : Int32) (v2 : Int32) (v3 : Int32) (σ : St), Ap (lp_172_75 v1 v2 v3 σ) Q → Ex sc CC 1 cd_172 Q 75 [some (.ref 12), some (.int v1), some (.int v2), some (.int v3)] [] σ := by
  intro v1 v2 v3 σ h
  exact vh_172_75 monCC v1 v2 v3 σ (n_ne h (fun h => hl_172_91 v1 v2 v3 (up σ 12 11 v2) h) (fun h => hl_172_91 v1 v2 v3 (up σ 12 11 (σ 12 11)) h))
set_option maxHeartbeats 20000000 in
set_option maxRecDepth 100000 in
set_option maxHeartbeats 20000000 in
set_option maxRecDepth 100000 in
theorem vh_172_47 {sc : Nat × (Nat → Int32)} {C : CT} (hC : MonC C) {Q : Int32 → St → Prop} (v1 : Int32) (v2 : Int32) (σ : St) (v : (¬ v1 = 0 → (¬ v1 = 1 → Ex sc C 1 cd_172 Q 75 [some (.ref 12), some (.int v1), some (.int v2), some (.int (σ 12 13))] [] σ) ∧ (v1 = 1 → Ex sc C 1 cd_172 Q 75 [some (.ref 12), some (.int v1), some (.int v2), some (.int (σ 12 12))] [] σ)) ∧ (v1 = 0 → Ex sc C 1 cd_172 Q 75 [some (.ref 12), some (.int v1), some (.int v2), some (.int (σ 12 11))] [] σ)) : Ex sc C 1 cd_172 Q 47 [some (.ref 12), some (.int v1), some (.int v2), none] [] σ := stw_Ex (cuts := [47, 75, 91, 108]) hC 10 v
theorem hl_172_47 {sc : Nat × (Nat → Int32)} {Q : Int32 → St → Prop} : ∀ (v1 : Int32) (v2 : Int32) (σ : St), Ap (lp_172_47 v1 v2 σ) Q → Ex sc CC 1 cd_172 Q 47 [some (.ref 12), some (.int v1), some (.int v2), none] [] σ := by
  intro v1 v2 σ h
  exact vh_172_47 monCC v1 v2 σ (n_ne h (fun h => hl_172_75 v1 v2 (σ 12 11) σ h) (fun h => n_ne h (fun h => hl_172_75 v1 v2 (σ 12 12) σ h) (fun h => hl_172_75 v1 v2 (σ 12 13) σ h)))
set_option maxHeartbeats 20000000 in
set_option maxRecDepth 100000 in
theorem ve_172 {sc : Nat × (Nat → Int32)} {C : CT} (hC : MonC C) {Q : Int32 → St → Prop} (x1 x2 : Int32) (σ : St) (v : C 123 [.int x1, .int 0, .int 2] σ (fun r17 σ17 => (r17 = 0 → C 125 [.ref 12, .int 1] σ17 (fun r18 σ18 => Q r18 σ18)) ∧ (¬ r17 = 0 → (¬ x1 = 0 → (¬ x1 = 1 → C 123 [.int x2, .int 1, .int 200] σ17 (fun r19 σ19 => (¬ r19 = 0 → Ex sc C 1 cd_172 Q 47 [some (.ref 12), some (.int x1), some (.int x2), none] [] σ19) ∧ (r19 = 0 → C 125 [.ref 12, .int 1] σ19 (fun r20 σ20 => Q r20 σ20)))) ∧ (x1 = 1 → C 123 [.int x2, .int 1, .int 1000] σ17 (fun r21 σ21 => (¬ r21 = 0 → Ex sc C 1 cd_172 Q 47 [some (.ref 12), some (.int x1), some (.int x2), none] [] σ21) ∧ (r21 = 0 → C 125 [.ref 12, .int 1] σ21 (fun r22 σ22 => Q r22 σ22))))) ∧ (x1 = 0 → C 123 [.int x2, .int 1, .int 3650] σ17 (fun r23 σ23 => (¬ r23 = 0 → Ex sc C 1 cd_172 Q 47 [some (.ref 12), some (.int x1), some (.int x2), none] [] σ23) ∧ (r23 = 0 → C 125 [.ref 12, .int 1] σ23 (fun r24 σ24 => Q r24 σ24))))))) : Ex sc C 1 cd_172 Q 0 [some (.ref 12), some (.int x1), some (.int x2), none] [] σ := wpn_Ex (cuts := [47, 75, 91, 108]) hC (fun _ _ _ _ z => z) 21 0 _ _ _ v
set_option maxHeartbeats 20000000 in
set_option maxRecDepth 100000 in
theorem hp_172 {sc : Nat × (Nat → Int32)} {Q : Int32 → St → Prop} {x1 x2 : Int32} {σ : St} (h : Ap (sp_172 x1 x2 σ) Q) : Ex sc CC 1 cd_172 Q 0 [some (.ref 12), some (.int x1), some (.int x2), none] [] σ := by
  exact ve_172 monCC x1 x2 σ (cc_123 (n_bn h (fun r17 σ17 h => n_if h (fun h => cc_125 (n_bn h (fun r18 σ18 h => n_rt h))) (fun h => n_ne h (fun h => cc_123 (n_bn h (fun r23 σ23 h => n_ne h (fun h => cc_125 (n_bn h (fun r24 σ24 h => n_rt h))) (fun h => hl_172_47 x1 x2 σ23 h)))) (fun h => n_ne h (fun h => cc_123 (n_bn h (fun r21 σ21 h => n_ne h (fun h => cc_125 (n_bn h (fun r22 σ22 h => n_rt h))) (fun h => hl_172_47 x1 x2 σ21 h)))) (fun h => cc_123 (n_bn h (fun r19 σ19 h => n_ne h (fun h => cc_125 (n_bn h (fun r20 σ20 h => n_rt h))) (fun h => hl_172_47 x1 x2 σ19 h)))))))))
-- TradeTestsModel.missed
set_option maxHeartbeats 20000000 in
set_option maxRecDepth 100000 in
theorem ve_176 {sc : Nat × (Nat → Int32)} {C : CT} (hC : MonC C) {Q : Int32 → St → Prop} (x1 : Int32) (σ : St) (v : vp_in x1 80 ∧ (C 150 [.ref 12, .int (σ 61 (x1).toNatClampNeg)] σ (fun r3 σ3 => vp_in x1 80 ∧ (((σ3 68 (x1).toNatClampNeg) < 0 → Q 0 σ3) ∧ (¬ (σ3 68 (x1).toNatClampNeg) < 0 → (0 ≤ r3 → vp_in x1 80 ∧ (vp_in (σ3 68 (x1).toNatClampNeg) 6 ∧ (vp_in x1 80 ∧ (vp_in (((4 : Int32) * r3) + 1) 28 ∧ (Q (((σ3 77 (σ3 68 (x1).toNatClampNeg).toNatClampNeg) &&& ((σ3 67 (x1).toNatClampNeg) ^^^ (-1))) &&& (σ3 76 (((4 : Int32) * r3) + 1).toNatClampNeg)) σ3))))) ∧ (¬ 0 ≤ r3 → Q 0 σ3)))))) : Ex sc C 1 cd_176 Q 0 [some (.ref 12), some (.int x1), none] [] σ := wpn_Ex (cuts := []) hC (fun _ _ _ _ z => z) 39 0 _ _ _ v
set_option maxHeartbeats 20000000 in
set_option maxRecDepth 100000 in
theorem hp_176 {sc : Nat × (Nat → Int32)} {Q : Int32 → St → Prop} {x1 : Int32} {σ : St} (h : Ap (sp_176 x1 σ) Q) : Ex sc CC 1 cd_176 Q 0 [some (.ref 12), some (.int x1), none] [] σ := by
  exact ve_176 monCC x1 σ (n_mb h (fun h => cc_150 (n_bn h (fun r3 σ3 h => n_mb h (fun h => n_if h (fun h => n_rt h) (fun h => n_if h (fun h => n_mb h (fun h => n_mb h (fun h => n_mb h (fun h => n_mb h (fun h => n_rt h))))) (fun h => n_rt h)))))))
-- TradeTestsModel.sumOf
set_option maxHeartbeats 20000000 in
set_option maxRecDepth 100000 in
set_option maxHeartbeats 20000000 in
set_option maxRecDepth 100000 in
theorem vh_179_5 {sc : Nat × (Nat → Int32)} {C : CT} (hC : MonC C) {Q : Int32 → St → Prop} (v1 : Int32) (v2 : Int32) (v3 : Int32) (v4 : Int32) (σ : St) (v : ((σ 12 4) ≤ v4 → Q v3 σ) ∧ (¬ (σ 12 4) ≤ v4 → vp_in v4 80 ∧ ((¬ (σ 60 (v4).toNatClampNeg) = v1 → Ex sc C 1 cd_179 Q 5 [some (.ref 12), some (.int v1), some (.int v2), some (.int (v3 + 0)), some (.int (v4 + 1))] [] σ) ∧ ((σ 60 (v4).toNatClampNeg) = v1 → vp_in v4 80 ∧ (C 123 [.int (σ 61 (v4).toNatClampNeg), .int ((v2 - (σ 12 11)) + 1), .int v2] σ (fun r3 σ3 => (r3 = 0 → Ex sc C 1 cd_179 Q 5 [some (.ref 12), some (.int v1), some (.int v2), some (.int (v3 + 0)), some (.int (v4 + 1))] [] σ3) ∧ (¬ r3 = 0 → vp_in v4 80 ∧ (Ex sc C 1 cd_179 Q 5 [some (.ref 12), some (.int v1), some (.int v2), some (.int (v3 + (σ3 81 (v4).toNatClampNeg))), some (.int (v4 + 1))] [] σ3)))))))) : Ex sc C 1 cd_179 Q 5 [some (.ref 12), some (.int v1), some (.int v2), some (.int v3), some (.int v4)] [] σ := stw_Ex (cuts := [5]) hC 34 v
theorem hl_179_5 {sc : Nat × (Nat → Int32)} {Q : Int32 → St → Prop} : ∀ (n : Nat) (v1 : Int32) (v2 : Int32) (v3 : Int32) (v4 : Int32) (σ : St), Ap (lp_179_5 n v1 v2 v3 v4 σ) Q → Ex sc CC 1 cd_179 Q 5 [some (.ref 12), some (.int v1), some (.int v2), some (.int v3), some (.int v4)] [] σ := by
  intro n
  induction n with
  | zero => intro v1 v2 v3 v4 σ h; exact n_no h
  | succ n ih =>
    intro v1 v2 v3 v4 σ h
    exact vh_179_5 monCC v1 v2 v3 v4 σ (n_if h (fun h => n_rt h) (fun h => n_mb h (fun h => n_ne h (fun h => n_mb h (fun h => cc_123 (n_bn h (fun r3 σ3 h => n_if h (fun h => ih v1 v2 (v3 + 0) (v4 + 1) σ3 h) (fun h => n_mb h (fun h => ih v1 v2 (v3 + (σ3 81 (v4).toNatClampNeg)) (v4 + 1) σ3 h)))))) (fun h => ih v1 v2 (v3 + 0) (v4 + 1) σ h))))
set_option maxHeartbeats 20000000 in
set_option maxRecDepth 100000 in
theorem ve_179 {sc : Nat × (Nat → Int32)} {C : CT} (hC : MonC C) {Q : Int32 → St → Prop} (x1 x2 : Int32) (σ : St) (v : Ex sc C 1 cd_179 Q 5 [some (.ref 12), some (.int x1), some (.int x2), some (.int 0), some (.int 0)] [] σ) : Ex sc C 1 cd_179 Q 0 [some (.ref 12), some (.int x1), some (.int x2), none, none] [] σ := wpn_Ex (cuts := [5]) hC (fun _ _ _ _ z => z) 6 0 _ _ _ v
set_option maxHeartbeats 20000000 in
set_option maxRecDepth 100000 in
theorem hp_179 {sc : Nat × (Nat → Int32)} {Q : Int32 → St → Prop} {x1 x2 : Int32} {σ : St} (h : Ap (sp_179 x1 x2 σ) Q) : Ex sc CC 1 cd_179 Q 0 [some (.ref 12), some (.int x1), some (.int x2), none, none] [] σ := by
  exact ve_179 monCC x1 x2 σ (hl_179_5 FU x1 x2 0 0 σ h)
-- TradeTestsModel.secret
set_option maxHeartbeats 20000000 in
set_option maxRecDepth 100000 in
theorem ve_181 {sc : Nat × (Nat → Int32)} {C : CT} (hC : MonC C) {Q : Int32 → St → Prop} (x1 : Int32) (σ : St) (v : C 123 [.int x1, .int 1, .int 255] σ (fun r7 σ7 => (¬ r7 = 0 → (¬ (σ7 12 6) = 6 → vp_in (σ7 12 6) 6 ∧ (Q (((σ7 12 6) + 1) - 1) (up (up σ7 77 (σ7 12 6).toNatClampNeg x1) 12 6 ((σ7 12 6) + 1)))) ∧ ((σ7 12 6) = 6 → C 125 [.ref 12, .int 4] σ7 (fun r8 σ8 => Q r8 σ8))) ∧ (r7 = 0 → C 125 [.ref 12, .int 1] σ7 (fun r9 σ9 => Q r9 σ9)))) : Ex sc C 1 cd_181 Q 0 [some (.ref 12), some (.int x1)] [] σ := wpn_Ex (cuts := []) hC (fun _ _ _ _ z => z) 27 0 _ _ _ v
set_option maxHeartbeats 20000000 in
set_option maxRecDepth 100000 in
theorem hp_181 {sc : Nat × (Nat → Int32)} {Q : Int32 → St → Prop} {x1 : Int32} {σ : St} (h : Ap (sp_181 x1 σ) Q) : Ex sc CC 1 cd_181 Q 0 [some (.ref 12), some (.int x1)] [] σ := by
  exact ve_181 monCC x1 σ (cc_123 (n_bn h (fun r7 σ7 h => n_ne h (fun h => cc_125 (n_bn h (fun r9 σ9 h => n_rt h))) (fun h => n_ne h (fun h => cc_125 (n_bn h (fun r8 σ8 h => n_rt h))) (fun h => n_mb h (fun h => n_rt h))))))
