/-! the code does what the functions say (written by wip/whole/gen/spec.py) -/
-- TradeTests.isBelow
set_option maxHeartbeats 20000000 in
set_option maxRecDepth 100000 in
theorem ve_1 {sc : Nat × (Nat → Int32)} {C : CT} (hC : MonC C) {Q : Int32 → St → Prop} (x1 x2 : Int32) (σ : St) (v : (x1 < 0 → ((0 : Int32) = 0 ∨ (0 : Int32) = 1) ∧ Q 0 σ) ∧ (¬ x1 < 0 → (x2 ≤ x1 → ((0 : Int32) = 0 ∨ (0 : Int32) = 1) ∧ Q 0 σ) ∧ (¬ x2 ≤ x1 → ((1 : Int32) = 0 ∨ (1 : Int32) = 1) ∧ Q 1 σ))) : Ex sc C 2 cd_1 Q 0 [some (.int x1), some (.int x2)] [] σ := wpn_Ex (cuts := []) hC (fun _ _ _ _ z => z) 9 0 _ _ _ v
set_option maxHeartbeats 20000000 in
set_option maxRecDepth 100000 in
theorem hp_1 {sc : Nat × (Nat → Int32)} {Q : Int32 → St → Prop} {x1 x2 : Int32} {σ : St} (h : Ap (sp_1 x1 x2 σ) Q) : Ex sc CC 2 cd_1 Q 0 [some (.int x1), some (.int x2)] [] σ := by
  exact ve_1 monCC x1 x2 σ (n_if h (fun h => n_rb h) (fun h => n_if h (fun h => n_rb h) (fun h => n_rb h)))
-- TradeTests.finding
set_option maxHeartbeats 20000000 in
set_option maxRecDepth 100000 in
theorem ve_2 {sc : Nat × (Nat → Int32)} {C : CT} (hC : MonC C) {Q : Int32 → St → Prop} (x1 : Int32) (σ : St) (v : vp_in x1 6 ∧ (vp_in x1 6 ∧ (Q ((-1000000 : Int32) - x1) (up σ 14 (x1).toNatClampNeg ((σ 14 (x1).toNatClampNeg) + 1))))) : Ex sc C 1 cd_2 Q 0 [some (.ref 0), some (.int x1)] [] σ := wpn_Ex (cuts := []) hC (fun _ _ _ _ z => z) 13 0 _ _ _ v
set_option maxHeartbeats 20000000 in
set_option maxRecDepth 100000 in
theorem hp_2 {sc : Nat × (Nat → Int32)} {Q : Int32 → St → Prop} {x1 : Int32} {σ : St} (h : Ap (sp_2 x1 σ) Q) : Ex sc CC 1 cd_2 Q 0 [some (.ref 0), some (.int x1)] [] σ := by
  exact ve_2 monCC x1 σ (n_mb h (fun h => n_mb h (fun h => n_rt h)))
-- TradeTests$Vehicles.add
set_option maxHeartbeats 20000000 in
set_option maxRecDepth 100000 in
theorem ve_3 {sc : Nat × (Nat → Int32)} {C : CT} (hC : MonC C) {Q : Int32 → St → Prop} (x1 x2 x3 : Int32) (σ : St) (v : vp_in (σ 1 3) 24 ∧ (vp_in (σ 1 3) 24 ∧ (vp_in (σ 1 3) 24 ∧ (Q (((σ 1 3) + 1) - 1) (up (up (up (up σ 15 (σ 1 3).toNatClampNeg x1) 16 (σ 1 3).toNatClampNeg x2) 17 (σ 1 3).toNatClampNeg x3) 1 3 ((σ 1 3) + 1)))))) : Ex sc C 1 cd_3 Q 0 [some (.ref 1), some (.int x1), some (.int x2), some (.int x3)] [] σ := wpn_Ex (cuts := []) hC (fun _ _ _ _ z => z) 30 0 _ _ _ v
set_option maxHeartbeats 20000000 in
set_option maxRecDepth 100000 in
theorem hp_3 {sc : Nat × (Nat → Int32)} {Q : Int32 → St → Prop} {x1 x2 x3 : Int32} {σ : St} (h : Ap (sp_3 x1 x2 x3 σ) Q) : Ex sc CC 1 cd_3 Q 0 [some (.ref 1), some (.int x1), some (.int x2), some (.int x3)] [] σ := by
  exact ve_3 monCC x1 x2 x3 σ (n_mb h (fun h => n_mb h (fun h => n_mb h (fun h => n_rt h))))
-- TradeTests.isUnder
set_option maxHeartbeats 20000000 in
set_option maxRecDepth 100000 in
theorem ve_5 {sc : Nat × (Nat → Int32)} {C : CT} (hC : MonC C) {Q : Int32 → St → Prop} (x1 x2 : Int32) (σ : St) (v : (x1 = x2 → ((1 : Int32) = 0 ∨ (1 : Int32) = 1) ∧ Q 1 σ) ∧ (¬ x1 = x2 → (x2 = 0 → ((1 : Int32) = 0 ∨ (1 : Int32) = 1) ∧ Q 1 σ) ∧ (¬ x2 = 0 → (¬ x2 = 1 → ((0 : Int32) = 0 ∨ (0 : Int32) = 1) ∧ Q 0 σ) ∧ (x2 = 1 → (¬ x1 = 2 → ((0 : Int32) = 0 ∨ (0 : Int32) = 1) ∧ Q 0 σ) ∧ (x1 = 2 → ((1 : Int32) = 0 ∨ (1 : Int32) = 1) ∧ Q 1 σ))))) : Ex sc C 2 cd_5 Q 0 [some (.int x1), some (.int x2)] [] σ := wpn_Ex (cuts := []) hC (fun _ _ _ _ z => z) 15 0 _ _ _ v
set_option maxHeartbeats 20000000 in
set_option maxRecDepth 100000 in
theorem hp_5 {sc : Nat × (Nat → Int32)} {Q : Int32 → St → Prop} {x1 x2 : Int32} {σ : St} (h : Ap (sp_5 x1 x2 σ) Q) : Ex sc CC 2 cd_5 Q 0 [some (.int x1), some (.int x2)] [] σ := by
  exact ve_5 monCC x1 x2 σ (n_if h (fun h => n_rb h) (fun h => n_if h (fun h => n_rb h) (fun h => n_ne h (fun h => n_ne h (fun h => n_rb h) (fun h => n_rb h)) (fun h => n_rb h))))
-- TradeTests$Vehicles.dueDays
set_option maxHeartbeats 20000000 in
set_option maxRecDepth 100000 in
theorem ve_6 {sc : Nat × (Nat → Int32)} {C : CT} (hC : MonC C) {Q : Int32 → St → Prop} (x1 : Int32) (σ : St) (v : vp_in x1 24 ∧ (vp_in (σ 15 (x1).toNatClampNeg) 4 ∧ (Q ((sV 0).getD (σ 15 (x1).toNatClampNeg).toNatClampNeg 0) σ))) : Ex sc C 1 cd_6 Q 0 [some (.ref 1), some (.int x1)] [] σ := wpn_Ex (cuts := []) hC (fun _ _ _ _ z => z) 8 0 _ _ _ v
set_option maxHeartbeats 20000000 in
set_option maxRecDepth 100000 in
theorem hp_6 {sc : Nat × (Nat → Int32)} {Q : Int32 → St → Prop} {x1 : Int32} {σ : St} (h : Ap (sp_6 x1 σ) Q) : Ex sc CC 1 cd_6 Q 0 [some (.ref 1), some (.int x1)] [] σ := by
  exact ve_6 monCC x1 σ (n_mb h (fun h => n_mb h (fun h => n_rt h)))
-- TradeTests$Trade.addGarage
set_option maxHeartbeats 20000000 in
set_option maxRecDepth 100000 in
theorem ve_8 {sc : Nat × (Nat → Int32)} {C : CT} (hC : MonC C) {Q : Int32 → St → Prop} (x1 x2 : Int32) (σ : St) (v : vp_in (σ 2 2) 6 ∧ (vp_in (σ 2 2) 6 ∧ (Q (((σ 2 2) + 1) - 1) (up (up (up σ 18 (σ 2 2).toNatClampNeg x1) 19 (σ 2 2).toNatClampNeg x2) 2 2 ((σ 2 2) + 1))))) : Ex sc C 1 cd_8 Q 0 [some (.ref 2), some (.int x1), some (.int x2)] [] σ := wpn_Ex (cuts := []) hC (fun _ _ _ _ z => z) 24 0 _ _ _ v
set_option maxHeartbeats 20000000 in
set_option maxRecDepth 100000 in
theorem hp_8 {sc : Nat × (Nat → Int32)} {Q : Int32 → St → Prop} {x1 x2 : Int32} {σ : St} (h : Ap (sp_8 x1 x2 σ) Q) : Ex sc CC 1 cd_8 Q 0 [some (.ref 2), some (.int x1), some (.int x2)] [] σ := by
  exact ve_8 monCC x1 x2 σ (n_mb h (fun h => n_mb h (fun h => n_rt h)))
-- TradeTests$Trade.addTester
set_option maxHeartbeats 20000000 in
set_option maxRecDepth 100000 in
theorem ve_10 {sc : Nat × (Nat → Int32)} {C : CT} (hC : MonC C) {Q : Int32 → St → Prop} (x1 : Int32) (σ : St) (v : vp_in (σ 2 4) 8 ∧ (Q (((σ 2 4) + 1) - 1) (up (up σ 20 (σ 2 4).toNatClampNeg x1) 2 4 ((σ 2 4) + 1)))) : Ex sc C 1 cd_10 Q 0 [some (.ref 2), some (.int x1)] [] σ := wpn_Ex (cuts := []) hC (fun _ _ _ _ z => z) 18 0 _ _ _ v
set_option maxHeartbeats 20000000 in
set_option maxRecDepth 100000 in
theorem hp_10 {sc : Nat × (Nat → Int32)} {Q : Int32 → St → Prop} {x1 : Int32} {σ : St} (h : Ap (sp_10 x1 σ) Q) : Ex sc CC 1 cd_10 Q 0 [some (.ref 2), some (.int x1)] [] σ := by
  exact ve_10 monCC x1 σ (n_mb h (fun h => n_rt h))
-- TradeTests$Trade.lastMoveDay
set_option maxHeartbeats 20000000 in
set_option maxRecDepth 100000 in
set_option maxHeartbeats 20000000 in
set_option maxRecDepth 100000 in
theorem vh_12_4 {sc : Nat × (Nat → Int32)} {C : CT} (hC : MonC C) {Q : Int32 → St → Prop} (v1 : Int32) (v2 : Int32) (v3 : Int32) (σ : St) (v : ((σ 2 8) ≤ v3 → Q v2 σ) ∧ (¬ (σ 2 8) ≤ v3 → vp_in v3 30 ∧ ((¬ (σ 21 (v3).toNatClampNeg) = v1 → Ex sc C 1 cd_12 Q 4 [some (.ref 2), some (.int v1), some (.int v2), some (.int (v3 + 1))] [] σ) ∧ ((σ 21 (v3).toNatClampNeg) = v1 → vp_in v3 30 ∧ (Ex sc C 1 cd_12 Q 4 [some (.ref 2), some (.int v1), some (.int (σ 23 (v3).toNatClampNeg)), some (.int (v3 + 1))] [] σ))))) : Ex sc C 1 cd_12 Q 4 [some (.ref 2), some (.int v1), some (.int v2), some (.int v3)] [] σ := stw_Ex (cuts := [4]) hC 18 v
theorem hl_12_4 {sc : Nat × (Nat → Int32)} {Q : Int32 → St → Prop} : ∀ (n : Nat) (v1 : Int32) (v2 : Int32) (v3 : Int32) (σ : St), Ap (lp_12_4 n v1 v2 v3 σ) Q → Ex sc CC 1 cd_12 Q 4 [some (.ref 2), some (.int v1), some (.int v2), some (.int v3)] [] σ := by
  intro n
  induction n with
  | zero => intro v1 v2 v3 σ h; exact n_no h
  | succ n ih =>
    intro v1 v2 v3 σ h
    exact vh_12_4 monCC v1 v2 v3 σ (n_if h (fun h => n_rt h) (fun h => n_mb h (fun h => n_ne h (fun h => n_mb h (fun h => ih v1 (σ 23 (v3).toNatClampNeg) (v3 + 1) σ h)) (fun h => ih v1 v2 (v3 + 1) σ h))))
set_option maxHeartbeats 20000000 in
set_option maxRecDepth 100000 in
theorem ve_12 {sc : Nat × (Nat → Int32)} {C : CT} (hC : MonC C) {Q : Int32 → St → Prop} (x1 : Int32) (σ : St) (v : Ex sc C 1 cd_12 Q 4 [some (.ref 2), some (.int x1), some (.int 0), some (.int 0)] [] σ) : Ex sc C 1 cd_12 Q 0 [some (.ref 2), some (.int x1), none, none] [] σ := wpn_Ex (cuts := [4]) hC (fun _ _ _ _ z => z) 6 0 _ _ _ v
set_option maxHeartbeats 20000000 in
set_option maxRecDepth 100000 in
theorem hp_12 {sc : Nat × (Nat → Int32)} {Q : Int32 → St → Prop} {x1 : Int32} {σ : St} (h : Ap (sp_12 x1 σ) Q) : Ex sc CC 1 cd_12 Q 0 [some (.ref 2), some (.int x1), none, none] [] σ := by
  exact ve_12 monCC x1 σ (hl_12_4 FU x1 0 0 σ h)
-- TradeTests$Trade.addMove
set_option maxHeartbeats 20000000 in
set_option maxRecDepth 100000 in
theorem ve_13 {sc : Nat × (Nat → Int32)} {C : CT} (hC : MonC C) {Q : Int32 → St → Prop} (x1 x2 x3 : Int32) (σ : St) (v : vp_in (σ 2 8) 30 ∧ (vp_in (σ 2 8) 30 ∧ (vp_in (σ 2 8) 30 ∧ (Q 0 (up (up (up (up σ 21 (σ 2 8).toNatClampNeg x1) 22 (σ 2 8).toNatClampNeg x2) 23 (σ 2 8).toNatClampNeg x3) 2 8 ((σ 2 8) + 1)))))) : Ex sc C 0 cd_13 Q 0 [some (.ref 2), some (.int x1), some (.int x2), some (.int x3)] [] σ := wpn_Ex (cuts := []) hC (fun _ _ _ _ z => z) 26 0 _ _ _ v
set_option maxHeartbeats 20000000 in
set_option maxRecDepth 100000 in
theorem hp_13 {sc : Nat × (Nat → Int32)} {Q : Int32 → St → Prop} {x1 x2 x3 : Int32} {σ : St} (h : Ap (sp_13 x1 x2 x3 σ) Q) : Ex sc CC 0 cd_13 Q 0 [some (.ref 2), some (.int x1), some (.int x2), some (.int x3)] [] σ := by
  exact ve_13 monCC x1 x2 x3 σ (n_mb h (fun h => n_mb h (fun h => n_mb h (fun h => n_rt h))))
-- TradeTests$Trade.garageOn
set_option maxHeartbeats 20000000 in
set_option maxRecDepth 100000 in
set_option maxHeartbeats 20000000 in
set_option maxRecDepth 100000 in
theorem vh_14_10 {sc : Nat × (Nat → Int32)} {C : CT} (hC : MonC C) {Q : Int32 → St → Prop} (v1 : Int32) (v2 : Int32) (v3 : Int32) (v4 : Int32) (σ : St) (v : ((σ 2 8) ≤ v4 → Q v3 σ) ∧ (¬ (σ 2 8) ≤ v4 → vp_in v4 30 ∧ ((¬ (σ 21 (v4).toNatClampNeg) = v1 → Ex sc C 1 cd_14 Q 10 [some (.ref 2), some (.int v1), some (.int v2), some (.int v3), some (.int (v4 + 1))] [] σ) ∧ ((σ 21 (v4).toNatClampNeg) = v1 → vp_in v4 30 ∧ ((v2 < (σ 23 (v4).toNatClampNeg) → Ex sc C 1 cd_14 Q 10 [some (.ref 2), some (.int v1), some (.int v2), some (.int v3), some (.int (v4 + 1))] [] σ) ∧ (¬ v2 < (σ 23 (v4).toNatClampNeg) → vp_in v4 30 ∧ (Ex sc C 1 cd_14 Q 10 [some (.ref 2), some (.int v1), some (.int v2), some (.int (σ 22 (v4).toNatClampNeg)), some (.int (v4 + 1))] [] σ))))))) : Ex sc C 1 cd_14 Q 10 [some (.ref 2), some (.int v1), some (.int v2), some (.int v3), some (.int v4)] [] σ := stw_Ex (cuts := [10]) hC 24 v
theorem hl_14_10 {sc : Nat × (Nat → Int32)} {Q : Int32 → St → Prop} : ∀ (n : Nat) (v1 : Int32) (v2 : Int32) (v3 : Int32) (v4 : Int32) (σ : St), Ap (lp_14_10 n v1 v2 v3 v4 σ) Q → Ex sc CC 1 cd_14 Q 10 [some (.ref 2), some (.int v1), some (.int v2), some (.int v3), some (.int v4)] [] σ := by
  intro n
  induction n with
  | zero => intro v1 v2 v3 v4 σ h; exact n_no h
  | succ n ih =>
    intro v1 v2 v3 v4 σ h
    exact vh_14_10 monCC v1 v2 v3 v4 σ (n_if h (fun h => n_rt h) (fun h => n_mb h (fun h => n_ne h (fun h => n_mb h (fun h => n_if h (fun h => ih v1 v2 v3 (v4 + 1) σ h) (fun h => n_mb h (fun h => ih v1 v2 (σ 22 (v4).toNatClampNeg) (v4 + 1) σ h)))) (fun h => ih v1 v2 v3 (v4 + 1) σ h))))
set_option maxHeartbeats 20000000 in
set_option maxRecDepth 100000 in
theorem ve_14 {sc : Nat × (Nat → Int32)} {C : CT} (hC : MonC C) {Q : Int32 → St → Prop} (x1 x2 : Int32) (σ : St) (v : vp_in x1 8 ∧ (Ex sc C 1 cd_14 Q 10 [some (.ref 2), some (.int x1), some (.int x2), some (.int (σ 20 (x1).toNatClampNeg)), some (.int 0)] [] σ)) : Ex sc C 1 cd_14 Q 0 [some (.ref 2), some (.int x1), some (.int x2), none, none] [] σ := wpn_Ex (cuts := [10]) hC (fun _ _ _ _ z => z) 9 0 _ _ _ v
set_option maxHeartbeats 20000000 in
set_option maxRecDepth 100000 in
theorem hp_14 {sc : Nat × (Nat → Int32)} {Q : Int32 → St → Prop} {x1 x2 : Int32} {σ : St} (h : Ap (sp_14 x1 x2 σ) Q) : Ex sc CC 1 cd_14 Q 0 [some (.ref 2), some (.int x1), some (.int x2), none, none] [] σ := by
  exact ve_14 monCC x1 x2 σ (n_mb h (fun h => hl_14_10 FU x1 x2 (σ 20 (x1).toNatClampNeg) 0 σ h))
-- TradeTests.isWho
set_option maxHeartbeats 20000000 in
set_option maxRecDepth 100000 in
theorem ve_17 {sc : Nat × (Nat → Int32)} {C : CT} (hC : MonC C) {Q : Int32 → St → Prop} (x1 : Int32) (σ : St) (v : (x1 < 0 → ((0 : Int32) = 0 ∨ (0 : Int32) = 1) ∧ Q 0 σ) ∧ (¬ x1 < 0 → ¬ (100 : Int32) = 0 ∧ (((σ 1 3) ≤ (x1 / 100) → ((0 : Int32) = 0 ∨ (0 : Int32) = 1) ∧ Q 0 σ) ∧ (¬ (σ 1 3) ≤ (x1 / 100) → ¬ (100 : Int32) = 0 ∧ (((σ 2 4) ≤ (x1 - x1 / 100 * 100) → ((0 : Int32) = 0 ∨ (0 : Int32) = 1) ∧ Q 0 σ) ∧ (¬ (σ 2 4) ≤ (x1 - x1 / 100 * 100) → ((1 : Int32) = 0 ∨ (1 : Int32) = 1) ∧ Q 1 σ)))))) : Ex sc C 2 cd_17 Q 0 [some (.ref 0), some (.int x1)] [] σ := wpn_Ex (cuts := []) hC (fun _ _ _ _ z => z) 20 0 _ _ _ v
set_option maxHeartbeats 20000000 in
set_option maxRecDepth 100000 in
theorem hp_17 {sc : Nat × (Nat → Int32)} {Q : Int32 → St → Prop} {x1 : Int32} {σ : St} (h : Ap (sp_17 x1 σ) Q) : Ex sc CC 2 cd_17 Q 0 [some (.ref 0), some (.int x1)] [] σ := by
  exact ve_17 monCC x1 σ (n_if h (fun h => n_rb h) (fun h => n_mb h (fun h => n_if h (fun h => n_rb h) (fun h => n_mb h (fun h => n_if h (fun h => n_rb h) (fun h => n_rb h))))))
-- TradeTests$Tests.lastDay
set_option maxHeartbeats 20000000 in
set_option maxRecDepth 100000 in
theorem ve_19 {sc : Nat × (Nat → Int32)} {C : CT} (hC : MonC C) {Q : Int32 → St → Prop}  (σ : St) (v : ((σ 3 14) ≤ 0 → Q 0 σ) ∧ (¬ (σ 3 14) ≤ 0 → vp_in ((σ 3 14) - 1) 80 ∧ (Q (σ 26 ((σ 3 14) - 1).toNatClampNeg) σ))) : Ex sc C 1 cd_19 Q 0 [some (.ref 3)] [] σ := wpn_Ex (cuts := []) hC (fun _ _ _ _ z => z) 13 0 _ _ _ v
set_option maxHeartbeats 20000000 in
set_option maxRecDepth 100000 in
theorem hp_19 {sc : Nat × (Nat → Int32)} {Q : Int32 → St → Prop}  {σ : St} (h : Ap (sp_19  σ) Q) : Ex sc CC 1 cd_19 Q 0 [some (.ref 3)] [] σ := by
  exact ve_19 monCC  σ (n_if h (fun h => n_rt h) (fun h => n_mb h (fun h => n_rt h)))
