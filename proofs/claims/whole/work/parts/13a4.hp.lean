/-! the code does what the functions say (written by wip/whole/gen/spec.py) -/
-- TradeTests$Plan.isFree
set_option maxHeartbeats 20000000 in
set_option maxRecDepth 100000 in
theorem ve_104 {sc : Nat × (Nat → Int32)} {C : CT} (hC : MonC C) {Q : Int32 → St → Prop} (x1 x2 : Int32) (σ : St) (v : (¬ ((x1 >>> (x2 &&& 31)) &&& 1) = 0 → ((0 : Int32) = 0 ∨ (0 : Int32) = 1) ∧ Q 0 σ) ∧ (((x1 >>> (x2 &&& 31)) &&& 1) = 0 → ((1 : Int32) = 0 ∨ (1 : Int32) = 1) ∧ Q 1 σ)) : Ex sc C 2 cd_104 Q 0 [some (.int x1), some (.int x2)] [] σ := wpn_Ex (cuts := []) hC (fun _ _ _ _ z => z) 10 0 _ _ _ v
set_option maxHeartbeats 20000000 in
set_option maxRecDepth 100000 in
theorem hp_104 {sc : Nat × (Nat → Int32)} {Q : Int32 → St → Prop} {x1 x2 : Int32} {σ : St} (h : Ap (sp_104 x1 x2 σ) Q) : Ex sc CC 2 cd_104 Q 0 [some (.int x1), some (.int x2)] [] σ := by
  exact ve_104 monCC x1 x2 σ (n_ne h (fun h => n_rb h) (fun h => n_rb h))
-- TradeTests$Plan.mostWith
set_option maxHeartbeats 20000000 in
set_option maxRecDepth 100000 in
theorem ve_105 {sc : Nat × (Nat → Int32)} {C : CT} (hC : MonC C) {Q : Int32 → St → Prop} (x1 x2 x3 : Int32) (σ : St) (v : vp_in ((x1 * 6) + x2) 36 ∧ (vp_in (((x1 + 1) * 64) + (x3 ||| ((1 : Int32) <<< (x2 &&& 31)))) 448 ∧ (Q ((σ 48 ((x1 * 6) + x2).toNatClampNeg) + (σ 49 (((x1 + 1) * 64) + (x3 ||| ((1 : Int32) <<< (x2 &&& 31)))).toNatClampNeg)) σ))) : Ex sc C 1 cd_105 Q 0 [some (.ref 11), some (.int x1), some (.int x2), some (.int x3)] [] σ := wpn_Ex (cuts := []) hC (fun _ _ _ _ z => z) 25 0 _ _ _ v
set_option maxHeartbeats 20000000 in
set_option maxRecDepth 100000 in
theorem hp_105 {sc : Nat × (Nat → Int32)} {Q : Int32 → St → Prop} {x1 x2 x3 : Int32} {σ : St} (h : Ap (sp_105 x1 x2 x3 σ) Q) : Ex sc CC 1 cd_105 Q 0 [some (.ref 11), some (.int x1), some (.int x2), some (.int x3)] [] σ := by
  exact ve_105 monCC x1 x2 x3 σ (n_mb h (fun h => n_mb h (fun h => n_rt h)))
-- TradeTests$Plan.most
set_option maxHeartbeats 20000000 in
set_option maxRecDepth 100000 in
theorem ve_107 {sc : Nat × (Nat → Int32)} {C : CT} (hC : MonC C) {Q : Int32 → St → Prop}  (σ : St) (v : vp_in 0 448 ∧ (Q (σ 49 (0 : Int32).toNatClampNeg) σ)) : Ex sc C 1 cd_107 Q 0 [some (.ref 11)] [] σ := wpn_Ex (cuts := []) hC (fun _ _ _ _ z => z) 6 0 _ _ _ v
set_option maxHeartbeats 20000000 in
set_option maxRecDepth 100000 in
theorem hp_107 {sc : Nat × (Nat → Int32)} {Q : Int32 → St → Prop}  {σ : St} (h : Ap (sp_107  σ) Q) : Ex sc CC 1 cd_107 Q 0 [some (.ref 11)] [] σ := by
  exact ve_107 monCC  σ (n_mb h (fun h => n_rt h))
-- TradeTests$Tests.isDrawn
set_option maxHeartbeats 20000000 in
set_option maxRecDepth 100000 in
theorem ve_111 {sc : Nat × (Nat → Int32)} {C : CT} (hC : MonC C) {Q : Int32 → St → Prop} (x1 : Int32) (σ : St) (v : vp_in x1 80 ∧ (((σ 36 (x1).toNatClampNeg) ≤ 0 → ((0 : Int32) = 0 ∨ (0 : Int32) = 1) ∧ Q 0 σ) ∧ (¬ (σ 36 (x1).toNatClampNeg) ≤ 0 → ((1 : Int32) = 0 ∨ (1 : Int32) = 1) ∧ Q 1 σ))) : Ex sc C 2 cd_111 Q 0 [some (.ref 3), some (.int x1)] [] σ := wpn_Ex (cuts := []) hC (fun _ _ _ _ z => z) 9 0 _ _ _ v
set_option maxHeartbeats 20000000 in
set_option maxRecDepth 100000 in
theorem hp_111 {sc : Nat × (Nat → Int32)} {Q : Int32 → St → Prop} {x1 : Int32} {σ : St} (h : Ap (sp_111 x1 σ) Q) : Ex sc CC 2 cd_111 Q 0 [some (.ref 3), some (.int x1)] [] σ := by
  exact ve_111 monCC x1 σ (n_mb h (fun h => n_if h (fun h => n_rb h) (fun h => n_rb h)))
-- TradeTests$Tests.addDraw
set_option maxHeartbeats 20000000 in
set_option maxRecDepth 100000 in
theorem ve_112 {sc : Nat × (Nat → Int32)} {C : CT} (hC : MonC C) {Q : Int32 → St → Prop} (x1 x2 x3 : Int32) (σ : St) (v : vp_in x1 80 ∧ (vp_in x1 80 ∧ (Q ((σ 3 15) + 1) (up (up (up σ 36 (x1).toNatClampNeg x2) 37 (x1).toNatClampNeg x3) 3 15 ((σ 3 15) + 1))))) : Ex sc C 1 cd_112 Q 0 [some (.ref 3), some (.int x1), some (.int x2), some (.int x3)] [] σ := wpn_Ex (cuts := []) hC (fun _ _ _ _ z => z) 20 0 _ _ _ v
set_option maxHeartbeats 20000000 in
set_option maxRecDepth 100000 in
theorem hp_112 {sc : Nat × (Nat → Int32)} {Q : Int32 → St → Prop} {x1 x2 x3 : Int32} {σ : St} (h : Ap (sp_112 x1 x2 x3 σ) Q) : Ex sc CC 1 cd_112 Q 0 [some (.ref 3), some (.int x1), some (.int x2), some (.int x3)] [] σ := by
  exact ve_112 monCC x1 x2 x3 σ (n_mb h (fun h => n_mb h (fun h => n_rt h)))
-- TradeTests$Tests.drawnError
set_option maxHeartbeats 20000000 in
set_option maxRecDepth 100000 in
set_option maxHeartbeats 20000000 in
set_option maxRecDepth 100000 in
theorem vh_114_6 {sc : Nat × (Nat → Int32)} {C : CT} (hC : MonC C) {Q : Int32 → St → Prop} (v1 : Int32) (v2 : Int32) (v3 : Int32) (σ : St) (v : ((σ 3 14) ≤ v3 → (v1 ≤ 0 → Q (-1) σ) ∧ (¬ v1 ≤ 0 → ¬ v1 = 0 ∧ (Q ((v2 * 1000) / v1) σ))) ∧ (¬ (σ 3 14) ≤ v3 → vp_in v3 80 ∧ (((σ 36 (v3).toNatClampNeg) ≤ 0 → Ex sc C 1 cd_114 Q 6 [some (.ref 3), some (.int v1), some (.int v2), some (.int (v3 + 1)), none] [] σ) ∧ (¬ (σ 36 (v3).toNatClampNeg) ≤ 0 → vp_in v3 80 ∧ (¬ (σ 36 (v3).toNatClampNeg) = 0 ∧ (vp_in v3 80 ∧ (Ex sc C 1 cd_114 Q 6 [some (.ref 3), some (.int (v1 + ((10000 : Int32) / (σ 36 (v3).toNatClampNeg)))), some (.int (v2 + ((σ 37 (v3).toNatClampNeg) * ((10000 : Int32) / (σ 36 (v3).toNatClampNeg))))), some (.int (v3 + 1)), some (.int ((10000 : Int32) / (σ 36 (v3).toNatClampNeg)))] [] σ))))))) : Ex sc C 1 cd_114 Q 6 [some (.ref 3), some (.int v1), some (.int v2), some (.int v3), none] [] σ := stw_Ex (cuts := [6]) hC 32 v
theorem hl_114_6 {sc : Nat × (Nat → Int32)} {Q : Int32 → St → Prop} : ∀ (n : Nat) (v1 : Int32) (v2 : Int32) (v3 : Int32) (σ : St), Ap (lp_114_6 n v1 v2 v3 σ) Q → Ex sc CC 1 cd_114 Q 6 [some (.ref 3), some (.int v1), some (.int v2), some (.int v3), none] [] σ := by
  intro n
  induction n with
  | zero => intro v1 v2 v3 σ h; exact n_no h
  | succ n ih =>
    intro v1 v2 v3 σ h
    exact vh_114_6 monCC v1 v2 v3 σ (n_if h (fun h => n_if h (fun h => n_rt h) (fun h => n_mb h (fun h => n_rt h))) (fun h => n_mb h (fun h => n_if h (fun h => ih v1 v2 (v3 + 1) σ h) (fun h => n_mb h (fun h => n_mb h (fun h => n_mb h (fun h => Ex_fg [true, true, true, true, false] (ih (v1 + ((10000 : Int32) / (σ 36 (v3).toNatClampNeg))) (v2 + ((σ 37 (v3).toNatClampNeg) * ((10000 : Int32) / (σ 36 (v3).toNatClampNeg)))) (v3 + 1) σ h))))))))
set_option maxHeartbeats 20000000 in
set_option maxRecDepth 100000 in
theorem ve_114 {sc : Nat × (Nat → Int32)} {C : CT} (hC : MonC C) {Q : Int32 → St → Prop}  (σ : St) (v : Ex sc C 1 cd_114 Q 6 [some (.ref 3), some (.int 0), some (.int 0), some (.int 0), none] [] σ) : Ex sc C 1 cd_114 Q 0 [some (.ref 3), none, none, none, none] [] σ := wpn_Ex (cuts := [6]) hC (fun _ _ _ _ z => z) 8 0 _ _ _ v
set_option maxHeartbeats 20000000 in
set_option maxRecDepth 100000 in
theorem hp_114 {sc : Nat × (Nat → Int32)} {Q : Int32 → St → Prop}  {σ : St} (h : Ap (sp_114  σ) Q) : Ex sc CC 1 cd_114 Q 0 [some (.ref 3), none, none, none, none] [] σ := by
  exact ve_114 monCC  σ (hl_114_6 FU 0 0 0 σ h)
-- TradeTestsModel.in
set_option maxHeartbeats 20000000 in
set_option maxRecDepth 100000 in
theorem ve_123 {sc : Nat × (Nat → Int32)} {C : CT} (hC : MonC C) {Q : Int32 → St → Prop} (x1 x2 x3 : Int32) (σ : St) (v : (x1 < x2 → ((0 : Int32) = 0 ∨ (0 : Int32) = 1) ∧ Q 0 σ) ∧ (¬ x1 < x2 → (x3 < x1 → ((0 : Int32) = 0 ∨ (0 : Int32) = 1) ∧ Q 0 σ) ∧ (¬ x3 < x1 → ((1 : Int32) = 0 ∨ (1 : Int32) = 1) ∧ Q 1 σ))) : Ex sc C 2 cd_123 Q 0 [some (.int x1), some (.int x2), some (.int x3)] [] σ := wpn_Ex (cuts := []) hC (fun _ _ _ _ z => z) 10 0 _ _ _ v
set_option maxHeartbeats 20000000 in
set_option maxRecDepth 100000 in
theorem hp_123 {sc : Nat × (Nat → Int32)} {Q : Int32 → St → Prop} {x1 x2 x3 : Int32} {σ : St} (h : Ap (sp_123 x1 x2 x3 σ) Q) : Ex sc CC 2 cd_123 Q 0 [some (.int x1), some (.int x2), some (.int x3)] [] σ := by
  exact ve_123 monCC x1 x2 x3 σ (n_if h (fun h => n_rb h) (fun h => n_if h (fun h => n_rb h) (fun h => n_rb h)))
-- TradeTestsModel.finds
set_option maxHeartbeats 20000000 in
set_option maxRecDepth 100000 in
theorem ve_125 {sc : Nat × (Nat → Int32)} {C : CT} (hC : MonC C) {Q : Int32 → St → Prop} (x1 : Int32) (σ : St) (v : vp_in x1 6 ∧ (vp_in x1 6 ∧ (Q ((-1000000 : Int32) - x1) (up σ 80 (x1).toNatClampNeg ((σ 80 (x1).toNatClampNeg) + 1))))) : Ex sc C 1 cd_125 Q 0 [some (.ref 12), some (.int x1)] [] σ := wpn_Ex (cuts := []) hC (fun _ _ _ _ z => z) 13 0 _ _ _ v
set_option maxHeartbeats 20000000 in
set_option maxRecDepth 100000 in
theorem hp_125 {sc : Nat × (Nat → Int32)} {Q : Int32 → St → Prop} {x1 : Int32} {σ : St} (h : Ap (sp_125 x1 σ) Q) : Ex sc CC 1 cd_125 Q 0 [some (.ref 12), some (.int x1)] [] σ := by
  exact ve_125 monCC x1 σ (n_mb h (fun h => n_mb h (fun h => n_rt h)))
-- TradeTestsModel.isUnder
set_option maxHeartbeats 20000000 in
set_option maxRecDepth 100000 in
theorem ve_128 {sc : Nat × (Nat → Int32)} {C : CT} (hC : MonC C) {Q : Int32 → St → Prop} (x1 x2 : Int32) (σ : St) (v : (x2 = 0 → ((1 : Int32) = 0 ∨ (1 : Int32) = 1) ∧ Q 1 σ) ∧ (¬ x2 = 0 → (x1 = x2 → ((1 : Int32) = 0 ∨ (1 : Int32) = 1) ∧ Q 1 σ) ∧ (¬ x1 = x2 → (¬ x2 = 1 → ((0 : Int32) = 0 ∨ (0 : Int32) = 1) ∧ Q 0 σ) ∧ (x2 = 1 → (¬ x1 = 2 → ((0 : Int32) = 0 ∨ (0 : Int32) = 1) ∧ Q 0 σ) ∧ (x1 = 2 → ((1 : Int32) = 0 ∨ (1 : Int32) = 1) ∧ Q 1 σ))))) : Ex sc C 2 cd_128 Q 0 [some (.int x1), some (.int x2)] [] σ := wpn_Ex (cuts := []) hC (fun _ _ _ _ z => z) 15 0 _ _ _ v
set_option maxHeartbeats 20000000 in
set_option maxRecDepth 100000 in
theorem hp_128 {sc : Nat × (Nat → Int32)} {Q : Int32 → St → Prop} {x1 x2 : Int32} {σ : St} (h : Ap (sp_128 x1 x2 σ) Q) : Ex sc CC 2 cd_128 Q 0 [some (.int x1), some (.int x2)] [] σ := by
  exact ve_128 monCC x1 x2 σ (n_if h (fun h => n_rb h) (fun h => n_if h (fun h => n_rb h) (fun h => n_ne h (fun h => n_ne h (fun h => n_rb h) (fun h => n_rb h)) (fun h => n_rb h))))
-- TradeTestsModel.dueOf
set_option maxHeartbeats 20000000 in
set_option maxRecDepth 100000 in
theorem ve_129 {sc : Nat × (Nat → Int32)} {C : CT} (hC : MonC C) {Q : Int32 → St → Prop} (x1 : Int32) (σ : St) (v : vp_in x1 24 ∧ ((¬ (σ 50 (x1).toNatClampNeg) = 2 → vp_in x1 24 ∧ ((¬ (σ 50 (x1).toNatClampNeg) = 3 → Q 365 σ) ∧ ((σ 50 (x1).toNatClampNeg) = 3 → Q 730 σ))) ∧ ((σ 50 (x1).toNatClampNeg) = 2 → Q 182 σ))) : Ex sc C 1 cd_129 Q 0 [some (.ref 12), some (.int x1)] [] σ := wpn_Ex (cuts := []) hC (fun _ _ _ _ z => z) 16 0 _ _ _ v
set_option maxHeartbeats 20000000 in
set_option maxRecDepth 100000 in
theorem hp_129 {sc : Nat × (Nat → Int32)} {Q : Int32 → St → Prop} {x1 : Int32} {σ : St} (h : Ap (sp_129 x1 σ) Q) : Ex sc CC 1 cd_129 Q 0 [some (.ref 12), some (.int x1)] [] σ := by
  exact ve_129 monCC x1 σ (n_mb h (fun h => n_ne h (fun h => n_rt h) (fun h => n_mb h (fun h => n_ne h (fun h => n_rt h) (fun h => n_rt h)))))
-- TradeTestsModel.placeOf
set_option maxHeartbeats 20000000 in
set_option maxRecDepth 100000 in
set_option maxHeartbeats 20000000 in
set_option maxRecDepth 100000 in
theorem vh_135_10 {sc : Nat × (Nat → Int32)} {C : CT} (hC : MonC C) {Q : Int32 → St → Prop} (v1 : Int32) (v2 : Int32) (v3 : Int32) (v4 : Int32) (σ : St) (v : ((σ 12 3) ≤ v4 → Q v3 σ) ∧ (¬ (σ 12 3) ≤ v4 → vp_in v4 30 ∧ ((¬ (σ 56 (v4).toNatClampNeg) = v1 → Ex sc C 1 cd_135 Q 10 [some (.ref 12), some (.int v1), some (.int v2), some (.int v3), some (.int (v4 + 1))] [] σ) ∧ ((σ 56 (v4).toNatClampNeg) = v1 → vp_in v4 30 ∧ ((v2 < (σ 58 (v4).toNatClampNeg) → Ex sc C 1 cd_135 Q 10 [some (.ref 12), some (.int v1), some (.int v2), some (.int v3), some (.int (v4 + 1))] [] σ) ∧ (¬ v2 < (σ 58 (v4).toNatClampNeg) → vp_in v4 30 ∧ (Ex sc C 1 cd_135 Q 10 [some (.ref 12), some (.int v1), some (.int v2), some (.int (σ 57 (v4).toNatClampNeg)), some (.int (v4 + 1))] [] σ))))))) : Ex sc C 1 cd_135 Q 10 [some (.ref 12), some (.int v1), some (.int v2), some (.int v3), some (.int v4)] [] σ := stw_Ex (cuts := [10]) hC 25 v
theorem hl_135_10 {sc : Nat × (Nat → Int32)} {Q : Int32 → St → Prop} : ∀ (n : Nat) (v1 : Int32) (v2 : Int32) (v3 : Int32) (v4 : Int32) (σ : St), Ap (lp_135_10 n v1 v2 v3 v4 σ) Q → Ex sc CC 1 cd_135 Q 10 [some (.ref 12), some (.int v1), some (.int v2), some (.int v3), some (.int v4)] [] σ := by
  intro n
  induction n with
  | zero => intro v1 v2 v3 v4 σ h; exact n_no h
  | succ n ih =>
    intro v1 v2 v3 v4 σ h
    exact vh_135_10 monCC v1 v2 v3 v4 σ (n_if h (fun h => n_rt h) (fun h => n_mb h (fun h => n_ne h (fun h => n_mb h (fun h => n_if h (fun h => ih v1 v2 v3 (v4 + 1) σ h) (fun h => n_mb h (fun h => ih v1 v2 (σ 57 (v4).toNatClampNeg) (v4 + 1) σ h)))) (fun h => ih v1 v2 v3 (v4 + 1) σ h))))
set_option maxHeartbeats 20000000 in
set_option maxRecDepth 100000 in
theorem ve_135 {sc : Nat × (Nat → Int32)} {C : CT} (hC : MonC C) {Q : Int32 → St → Prop} (x1 x2 : Int32) (σ : St) (v : vp_in x1 8 ∧ (Ex sc C 1 cd_135 Q 10 [some (.ref 12), some (.int x1), some (.int x2), some (.int (σ 55 (x1).toNatClampNeg)), some (.int 0)] [] σ)) : Ex sc C 1 cd_135 Q 0 [some (.ref 12), some (.int x1), some (.int x2), none, none] [] σ := wpn_Ex (cuts := [10]) hC (fun _ _ _ _ z => z) 9 0 _ _ _ v
set_option maxHeartbeats 20000000 in
set_option maxRecDepth 100000 in
theorem hp_135 {sc : Nat × (Nat → Int32)} {Q : Int32 → St → Prop} {x1 x2 : Int32} {σ : St} (h : Ap (sp_135 x1 x2 σ) Q) : Ex sc CC 1 cd_135 Q 0 [some (.ref 12), some (.int x1), some (.int x2), none, none] [] σ := by
  exact ve_135 monCC x1 x2 σ (n_mb h (fun h => hl_135_10 FU x1 x2 (σ 55 (x1).toNatClampNeg) 0 σ h))
-- TradeTestsModel.here
set_option maxHeartbeats 20000000 in
set_option maxRecDepth 100000 in
theorem ve_145 {sc : Nat × (Nat → Int32)} {C : CT} (hC : MonC C) {Q : Int32 → St → Prop}  (σ : St) (v : ((σ 12 9) ≤ (σ 12 45) → Q (-1) σ) ∧ (¬ (σ 12 9) ≤ (σ 12 45) → vp_in (σ 12 45) 60 ∧ (Q (σ 78 (σ 12 45).toNatClampNeg) σ))) : Ex sc C 1 cd_145 Q 0 [some (.ref 12)] [] σ := wpn_Ex (cuts := []) hC (fun _ _ _ _ z => z) 13 0 _ _ _ v
set_option maxHeartbeats 20000000 in
set_option maxRecDepth 100000 in
theorem hp_145 {sc : Nat × (Nat → Int32)} {Q : Int32 → St → Prop}  {σ : St} (h : Ap (sp_145  σ) Q) : Ex sc CC 1 cd_145 Q 0 [some (.ref 12)] [] σ := by
  exact ve_145 monCC  σ (n_if h (fun h => n_rt h) (fun h => n_mb h (fun h => n_rt h)))
