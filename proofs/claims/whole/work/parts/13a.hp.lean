/-! the code does what the functions say (written by wip/whole/gen/spec.py) -/
-- TradeTests.isBelow
set_option maxHeartbeats 20000000 in
set_option maxRecDepth 100000 in
theorem hp_1 {sc : Nat × (Nat → Int32)} {Q : Int32 → St → Prop} {x1 x2 : Int32} {σ : St} (h : Ap (sp_1 x1 x2 σ) Q) : Ex sc CC 2 cd_1 Q 0 [some (.int x1), some (.int x2)] [] σ := by
  have v : (x1 < 0 → ((0 : Int32) = 0 ∨ (0 : Int32) = 1) ∧ Q 0 σ) ∧ (¬ x1 < 0 → (x2 ≤ x1 → ((0 : Int32) = 0 ∨ (0 : Int32) = 1) ∧ Q 0 σ) ∧ (¬ x2 ≤ x1 → ((1 : Int32) = 0 ∨ (1 : Int32) = 1) ∧ Q 1 σ)) := n_if h (fun h => n_rb h) (fun h => n_if h (fun h => n_rb h) (fun h => n_rb h))
  exact wpn_Ex (cuts := []) monCC (fun _ _ _ _ z => z) 9 0 _ _ _ v
-- TradeTests.finding
set_option maxHeartbeats 20000000 in
set_option maxRecDepth 100000 in
theorem hp_2 {sc : Nat × (Nat → Int32)} {Q : Int32 → St → Prop} {x1 : Int32} {σ : St} (h : Ap (sp_2 x1 σ) Q) : Ex sc CC 1 cd_2 Q 0 [some (.ref 0), some (.int x1)] [] σ := by
  have v : vp_in x1 6 ∧ (vp_in x1 6 ∧ (Q ((-1000000 : Int32) - x1) (up σ 14 (x1).toNatClampNeg ((σ 14 (x1).toNatClampNeg) + 1)))) := n_mb h (fun h => n_mb h (fun h => n_rt h))
  exact wpn_Ex (cuts := []) monCC (fun _ _ _ _ z => z) 13 0 _ _ _ v
-- TradeTests$Vehicles.add
set_option maxHeartbeats 20000000 in
set_option maxRecDepth 100000 in
theorem hp_3 {sc : Nat × (Nat → Int32)} {Q : Int32 → St → Prop} {x1 x2 x3 : Int32} {σ : St} (h : Ap (sp_3 x1 x2 x3 σ) Q) : Ex sc CC 1 cd_3 Q 0 [some (.ref 1), some (.int x1), some (.int x2), some (.int x3)] [] σ := by
  have v : vp_in (σ 1 3) 24 ∧ (vp_in (σ 1 3) 24 ∧ (vp_in (σ 1 3) 24 ∧ (Q (((σ 1 3) + 1) - 1) (up (up (up (up σ 15 (σ 1 3).toNatClampNeg x1) 16 (σ 1 3).toNatClampNeg x2) 17 (σ 1 3).toNatClampNeg x3) 1 3 ((σ 1 3) + 1))))) := n_mb h (fun h => n_mb h (fun h => n_mb h (fun h => n_rt h)))
  exact wpn_Ex (cuts := []) monCC (fun _ _ _ _ z => z) 30 0 _ _ _ v
-- TradeTests.isUnder
set_option maxHeartbeats 20000000 in
set_option maxRecDepth 100000 in
theorem hp_5 {sc : Nat × (Nat → Int32)} {Q : Int32 → St → Prop} {x1 x2 : Int32} {σ : St} (h : Ap (sp_5 x1 x2 σ) Q) : Ex sc CC 2 cd_5 Q 0 [some (.int x1), some (.int x2)] [] σ := by
  have v : (x1 = x2 → ((1 : Int32) = 0 ∨ (1 : Int32) = 1) ∧ Q 1 σ) ∧ (¬ x1 = x2 → (x2 = 0 → ((1 : Int32) = 0 ∨ (1 : Int32) = 1) ∧ Q 1 σ) ∧ (¬ x2 = 0 → (¬ x2 = 1 → ((0 : Int32) = 0 ∨ (0 : Int32) = 1) ∧ Q 0 σ) ∧ (x2 = 1 → (¬ x1 = 2 → ((0 : Int32) = 0 ∨ (0 : Int32) = 1) ∧ Q 0 σ) ∧ (x1 = 2 → ((1 : Int32) = 0 ∨ (1 : Int32) = 1) ∧ Q 1 σ)))) := n_if h (fun h => n_rb h) (fun h => n_if h (fun h => n_rb h) (fun h => n_ne h (fun h => n_ne h (fun h => n_rb h) (fun h => n_rb h)) (fun h => n_rb h)))
  exact wpn_Ex (cuts := []) monCC (fun _ _ _ _ z => z) 15 0 _ _ _ v
-- TradeTests$Vehicles.dueDays
set_option maxHeartbeats 20000000 in
set_option maxRecDepth 100000 in
theorem hp_6 {sc : Nat × (Nat → Int32)} {Q : Int32 → St → Prop} {x1 : Int32} {σ : St} (h : Ap (sp_6 x1 σ) Q) : Ex sc CC 1 cd_6 Q 0 [some (.ref 1), some (.int x1)] [] σ := by
  have v : vp_in x1 24 ∧ (vp_in (σ 15 (x1).toNatClampNeg) 4 ∧ (Q ((sV 0).getD (σ 15 (x1).toNatClampNeg).toNatClampNeg 0) σ)) := n_mb h (fun h => n_mb h (fun h => n_rt h))
  exact wpn_Ex (cuts := []) monCC (fun _ _ _ _ z => z) 8 0 _ _ _ v
-- TradeTests$Trade.addGarage
set_option maxHeartbeats 20000000 in
set_option maxRecDepth 100000 in
theorem hp_8 {sc : Nat × (Nat → Int32)} {Q : Int32 → St → Prop} {x1 x2 : Int32} {σ : St} (h : Ap (sp_8 x1 x2 σ) Q) : Ex sc CC 1 cd_8 Q 0 [some (.ref 2), some (.int x1), some (.int x2)] [] σ := by
  have v : vp_in (σ 2 2) 6 ∧ (vp_in (σ 2 2) 6 ∧ (Q (((σ 2 2) + 1) - 1) (up (up (up σ 18 (σ 2 2).toNatClampNeg x1) 19 (σ 2 2).toNatClampNeg x2) 2 2 ((σ 2 2) + 1)))) := n_mb h (fun h => n_mb h (fun h => n_rt h))
  exact wpn_Ex (cuts := []) monCC (fun _ _ _ _ z => z) 24 0 _ _ _ v
-- TradeTests$Trade.addTester
set_option maxHeartbeats 20000000 in
set_option maxRecDepth 100000 in
theorem hp_10 {sc : Nat × (Nat → Int32)} {Q : Int32 → St → Prop} {x1 : Int32} {σ : St} (h : Ap (sp_10 x1 σ) Q) : Ex sc CC 1 cd_10 Q 0 [some (.ref 2), some (.int x1)] [] σ := by
  have v : vp_in (σ 2 4) 8 ∧ (Q (((σ 2 4) + 1) - 1) (up (up σ 20 (σ 2 4).toNatClampNeg x1) 2 4 ((σ 2 4) + 1))) := n_mb h (fun h => n_rt h)
  exact wpn_Ex (cuts := []) monCC (fun _ _ _ _ z => z) 18 0 _ _ _ v
-- TradeTests$Trade.lastMoveDay
set_option maxHeartbeats 20000000 in
set_option maxRecDepth 100000 in
theorem hl_12_4 {sc : Nat × (Nat → Int32)} {Q : Int32 → St → Prop} : ∀ (n : Nat) (v1 : Int32) (v2 : Int32) (v3 : Int32) (σ : St), Ap (lp_12_4 n v1 v2 v3 σ) Q → Ex sc CC 1 cd_12 Q 4 [some (.ref 2), some (.int v1), some (.int v2), some (.int v3)] [] σ := by
  intro n
  induction n with
  | zero => intro v1 v2 v3 σ h; exact n_no h
  | succ n ih =>
    intro v1 v2 v3 σ h
    have v : ((σ 2 8) ≤ v3 → Q v2 σ) ∧ (¬ (σ 2 8) ≤ v3 → vp_in v3 30 ∧ ((¬ (σ 21 (v3).toNatClampNeg) = v1 → Ex sc CC 1 cd_12 Q 4 [some (.ref 2), some (.int v1), some (.int v2), some (.int (v3 + 1))] [] σ) ∧ ((σ 21 (v3).toNatClampNeg) = v1 → vp_in v3 30 ∧ (Ex sc CC 1 cd_12 Q 4 [some (.ref 2), some (.int v1), some (.int (σ 23 (v3).toNatClampNeg)), some (.int (v3 + 1))] [] σ)))) := n_if h (fun h => n_rt h) (fun h => n_mb h (fun h => n_ne h (fun h => n_mb h (fun h => ih v1 (σ 23 (v3).toNatClampNeg) (v3 + 1) σ h)) (fun h => ih v1 v2 (v3 + 1) σ h)))
    exact stw_Ex (cuts := [4]) monCC 18 v
set_option maxHeartbeats 20000000 in
set_option maxRecDepth 100000 in
theorem hp_12 {sc : Nat × (Nat → Int32)} {Q : Int32 → St → Prop} {x1 : Int32} {σ : St} (h : Ap (sp_12 x1 σ) Q) : Ex sc CC 1 cd_12 Q 0 [some (.ref 2), some (.int x1), none, none] [] σ := by
  have v : Ex sc CC 1 cd_12 Q 4 [some (.ref 2), some (.int x1), some (.int 0), some (.int 0)] [] σ := hl_12_4 FU x1 0 0 σ h
  exact wpn_Ex (cuts := [4]) monCC (fun _ _ _ _ z => z) 6 0 _ _ _ v
-- TradeTests$Trade.addMove
set_option maxHeartbeats 20000000 in
set_option maxRecDepth 100000 in
theorem hp_13 {sc : Nat × (Nat → Int32)} {Q : Int32 → St → Prop} {x1 x2 x3 : Int32} {σ : St} (h : Ap (sp_13 x1 x2 x3 σ) Q) : Ex sc CC 0 cd_13 Q 0 [some (.ref 2), some (.int x1), some (.int x2), some (.int x3)] [] σ := by
  have v : vp_in (σ 2 8) 30 ∧ (vp_in (σ 2 8) 30 ∧ (vp_in (σ 2 8) 30 ∧ (Q 0 (up (up (up (up σ 21 (σ 2 8).toNatClampNeg x1) 22 (σ 2 8).toNatClampNeg x2) 23 (σ 2 8).toNatClampNeg x3) 2 8 ((σ 2 8) + 1))))) := n_mb h (fun h => n_mb h (fun h => n_mb h (fun h => n_rt h)))
  exact wpn_Ex (cuts := []) monCC (fun _ _ _ _ z => z) 26 0 _ _ _ v
-- TradeTests$Trade.garageOn
set_option maxHeartbeats 20000000 in
set_option maxRecDepth 100000 in
theorem hl_14_10 {sc : Nat × (Nat → Int32)} {Q : Int32 → St → Prop} : ∀ (n : Nat) (v1 : Int32) (v2 : Int32) (v3 : Int32) (v4 : Int32) (σ : St), Ap (lp_14_10 n v1 v2 v3 v4 σ) Q → Ex sc CC 1 cd_14 Q 10 [some (.ref 2), some (.int v1), some (.int v2), some (.int v3), some (.int v4)] [] σ := by
  intro n
  induction n with
  | zero => intro v1 v2 v3 v4 σ h; exact n_no h
  | succ n ih =>
    intro v1 v2 v3 v4 σ h
    have v : ((σ 2 8) ≤ v4 → Q v3 σ) ∧ (¬ (σ 2 8) ≤ v4 → vp_in v4 30 ∧ ((¬ (σ 21 (v4).toNatClampNeg) = v1 → Ex sc CC 1 cd_14 Q 10 [some (.ref 2), some (.int v1), some (.int v2), some (.int v3), some (.int (v4 + 1))] [] σ) ∧ ((σ 21 (v4).toNatClampNeg) = v1 → vp_in v4 30 ∧ ((v2 < (σ 23 (v4).toNatClampNeg) → Ex sc CC 1 cd_14 Q 10 [some (.ref 2), some (.int v1), some (.int v2), some (.int v3), some (.int (v4 + 1))] [] σ) ∧ (¬ v2 < (σ 23 (v4).toNatClampNeg) → vp_in v4 30 ∧ (Ex sc CC 1 cd_14 Q 10 [some (.ref 2), some (.int v1), some (.int v2), some (.int (σ 22 (v4).toNatClampNeg)), some (.int (v4 + 1))] [] σ)))))) := n_if h (fun h => n_rt h) (fun h => n_mb h (fun h => n_ne h (fun h => n_mb h (fun h => n_if h (fun h => ih v1 v2 v3 (v4 + 1) σ h) (fun h => n_mb h (fun h => ih v1 v2 (σ 22 (v4).toNatClampNeg) (v4 + 1) σ h)))) (fun h => ih v1 v2 v3 (v4 + 1) σ h)))
    exact stw_Ex (cuts := [10]) monCC 24 v
set_option maxHeartbeats 20000000 in
set_option maxRecDepth 100000 in
theorem hp_14 {sc : Nat × (Nat → Int32)} {Q : Int32 → St → Prop} {x1 x2 : Int32} {σ : St} (h : Ap (sp_14 x1 x2 σ) Q) : Ex sc CC 1 cd_14 Q 0 [some (.ref 2), some (.int x1), some (.int x2), none, none] [] σ := by
  have v : vp_in x1 8 ∧ (Ex sc CC 1 cd_14 Q 10 [some (.ref 2), some (.int x1), some (.int x2), some (.int (σ 20 (x1).toNatClampNeg)), some (.int 0)] [] σ) := n_mb h (fun h => hl_14_10 FU x1 x2 (σ 20 (x1).toNatClampNeg) 0 σ h)
  exact wpn_Ex (cuts := [10]) monCC (fun _ _ _ _ z => z) 9 0 _ _ _ v
-- TradeTests.isWho
set_option maxHeartbeats 20000000 in
set_option maxRecDepth 100000 in
theorem hp_17 {sc : Nat × (Nat → Int32)} {Q : Int32 → St → Prop} {x1 : Int32} {σ : St} (h : Ap (sp_17 x1 σ) Q) : Ex sc CC 2 cd_17 Q 0 [some (.ref 0), some (.int x1)] [] σ := by
  have v : (x1 < 0 → ((0 : Int32) = 0 ∨ (0 : Int32) = 1) ∧ Q 0 σ) ∧ (¬ x1 < 0 → ¬ (100 : Int32) = 0 ∧ (((σ 1 3) ≤ (x1 / 100) → ((0 : Int32) = 0 ∨ (0 : Int32) = 1) ∧ Q 0 σ) ∧ (¬ (σ 1 3) ≤ (x1 / 100) → ¬ (100 : Int32) = 0 ∧ (((σ 2 4) ≤ (x1 - x1 / 100 * 100) → ((0 : Int32) = 0 ∨ (0 : Int32) = 1) ∧ Q 0 σ) ∧ (¬ (σ 2 4) ≤ (x1 - x1 / 100 * 100) → ((1 : Int32) = 0 ∨ (1 : Int32) = 1) ∧ Q 1 σ))))) := n_if h (fun h => n_rb h) (fun h => n_mb h (fun h => n_if h (fun h => n_rb h) (fun h => n_mb h (fun h => n_if h (fun h => n_rb h) (fun h => n_rb h)))))
  exact wpn_Ex (cuts := []) monCC (fun _ _ _ _ z => z) 20 0 _ _ _ v
-- TradeTests$Tests.lastDay
set_option maxHeartbeats 20000000 in
set_option maxRecDepth 100000 in
theorem hp_19 {sc : Nat × (Nat → Int32)} {Q : Int32 → St → Prop}  {σ : St} (h : Ap (sp_19  σ) Q) : Ex sc CC 1 cd_19 Q 0 [some (.ref 3)] [] σ := by
  have v : ((σ 3 14) ≤ 0 → Q 0 σ) ∧ (¬ (σ 3 14) ≤ 0 → vp_in ((σ 3 14) - 1) 80 ∧ (Q (σ 26 ((σ 3 14) - 1).toNatClampNeg) σ)) := n_if h (fun h => n_rt h) (fun h => n_mb h (fun h => n_rt h))
  exact wpn_Ex (cuts := []) monCC (fun _ _ _ _ z => z) 13 0 _ _ _ v
-- TradeTests.isHow
set_option maxHeartbeats 20000000 in
set_option maxRecDepth 100000 in
theorem hp_20 {sc : Nat × (Nat → Int32)} {Q : Int32 → St → Prop} {x1 x2 : Int32} {σ : St} (h : Ap (sp_20 x1 x2 σ) Q) : Ex sc CC 2 cd_20 Q 0 [some (.int x1), some (.int x2), none] [] σ := by
  have v : (x2 < 0 → ((0 : Int32) = 0 ∨ (0 : Int32) = 1) ∧ Q 0 σ) ∧ (¬ x2 < 0 → ¬ (1000 : Int32) = 0 ∧ (((x2 - x2 / 1000 * 1000) < 512 → ¬ (1000 : Int32) = 0 ∧ (((x2 / 1000) < 1 → ((0 : Int32) = 0 ∨ (0 : Int32) = 1) ∧ Q 0 σ) ∧ (¬ (x2 / 1000) < 1 → (240 < (x2 / 1000) → ((0 : Int32) = 0 ∨ (0 : Int32) = 1) ∧ Q 0 σ) ∧ (¬ 240 < (x2 / 1000) → ¬ (10000 : Int32) = 0 ∧ ((1440 < ((x1 / 10000) + (x2 / 1000)) → ((0 : Int32) = 0 ∨ (0 : Int32) = 1) ∧ Q 0 σ) ∧ (¬ 1440 < ((x1 / 10000) + (x2 / 1000)) → ((1 : Int32) = 0 ∨ (1 : Int32) = 1) ∧ Q 1 σ)))))) ∧ (¬ (x2 - x2 / 1000 * 1000) < 512 → ((0 : Int32) = 0 ∨ (0 : Int32) = 1) ∧ Q 0 σ))) := n_if h (fun h => n_rb h) (fun h => n_mb h (fun h => n_if h (fun h => n_mb h (fun h => n_if h (fun h => n_rb h) (fun h => n_if h (fun h => n_rb h) (fun h => n_mb h (fun h => n_if h (fun h => n_rb h) (fun h => n_rb h)))))) (fun h => n_rb h)))
  exact wpn_Ex (cuts := []) monCC (fun _ _ _ _ z => z) 28 0 _ _ _ v
-- TradeTests$Tests.add
set_option maxHeartbeats 20000000 in
set_option maxRecDepth 100000 in
theorem hp_22 {sc : Nat × (Nat → Int32)} {Q : Int32 → St → Prop} {x1 x2 x3 x4 x5 : Int32} {σ : St} (h : Ap (sp_22 x1 x2 x3 x4 x5 σ) Q) : Ex sc CC 1 cd_22 Q 0 [some (.ref 3), some (.int x1), some (.int x2), some (.int x3), some (.int x4), some (.int x5)] [] σ := by
  have v : ¬ (100 : Int32) = 0 ∧ (vp_in (σ 3 14) 80 ∧ (¬ (100 : Int32) = 0 ∧ (vp_in (σ 3 14) 80 ∧ (¬ (10000 : Int32) = 0 ∧ (vp_in (σ 3 14) 80 ∧ (¬ (10000 : Int32) = 0 ∧ (vp_in (σ 3 14) 80 ∧ (¬ (1000 : Int32) = 0 ∧ (vp_in (σ 3 14) 80 ∧ (vp_in (σ 3 14) 80 ∧ (¬ (1000 : Int32) = 0 ∧ (vp_in (σ 3 14) 80 ∧ (¬ (1000 : Int32) = 0 ∧ (vp_in (σ 3 14) 80 ∧ (¬ (1000 : Int32) = 0 ∧ (¬ (256 : Int32) = 0 ∧ (vp_in (σ 3 14) 80 ∧ (¬ (1000 : Int32) = 0 ∧ (¬ (256 : Int32) = 0 ∧ (vp_in (σ 3 14) 80 ∧ (Q (((σ 3 14) + 1) - 1) (up (up (up (up (up (up (up (up (up (up (up σ 24 (σ 3 14).toNatClampNeg (x1 / 100)) 25 (σ 3 14).toNatClampNeg (x1 - x1 / 100 * 100)) 26 (σ 3 14).toNatClampNeg (x2 - x2 / 10000 * 10000)) 27 (σ 3 14).toNatClampNeg (x2 / 10000)) 28 (σ 3 14).toNatClampNeg (x3 / 1000)) 29 (σ 3 14).toNatClampNeg x4) 30 (σ 3 14).toNatClampNeg (x5 / 1000)) 31 (σ 3 14).toNatClampNeg (x5 - x5 / 1000 * 1000)) 32 (σ 3 14).toNatClampNeg ((x3 - x3 / 1000 * 1000) - (x3 - x3 / 1000 * 1000) / 256 * 256)) 33 (σ 3 14).toNatClampNeg ((x3 - x3 / 1000 * 1000) / 256)) 3 14 ((σ 3 14) + 1))))))))))))))))))))))) := n_mb h (fun h => n_mb h (fun h => n_mb h (fun h => n_mb h (fun h => n_mb h (fun h => n_mb h (fun h => n_mb h (fun h => n_mb h (fun h => n_mb h (fun h => n_mb h (fun h => n_mb h (fun h => n_mb h (fun h => n_mb h (fun h => n_mb h (fun h => n_mb h (fun h => n_mb h (fun h => n_mb h (fun h => n_mb h (fun h => n_mb h (fun h => n_mb h (fun h => n_mb h (fun h => n_rt h)))))))))))))))))))))
  exact wpn_Ex (cuts := []) monCC (fun _ _ _ _ z => z) 94 0 _ _ _ v
-- TradeTests$Tests.detail
set_option maxHeartbeats 20000000 in
set_option maxRecDepth 100000 in
theorem hp_25 {sc : Nat × (Nat → Int32)} {Q : Int32 → St → Prop} {x1 x2 : Int32} {σ : St} (h : Ap (sp_25 x1 x2 σ) Q) : Ex sc CC 1 cd_25 Q 0 [some (.ref 3), some (.int x1), some (.int x2)] [] σ := by
  have v : (x2 = 0 → vp_in x1 80 ∧ (Q (σ 24 (x1).toNatClampNeg) σ)) ∧ (¬ x2 = 0 → (x2 = 1 → vp_in x1 80 ∧ (Q (σ 25 (x1).toNatClampNeg) σ)) ∧ (¬ x2 = 1 → (x2 = 2 → vp_in x1 80 ∧ (Q (σ 26 (x1).toNatClampNeg) σ)) ∧ (¬ x2 = 2 → (x2 = 3 → vp_in x1 80 ∧ (Q (σ 27 (x1).toNatClampNeg) σ)) ∧ (¬ x2 = 3 → (x2 = 4 → vp_in x1 80 ∧ (Q (σ 28 (x1).toNatClampNeg) σ)) ∧ (¬ x2 = 4 → (x2 = 5 → vp_in x1 80 ∧ (Q (σ 29 (x1).toNatClampNeg) σ)) ∧ (¬ x2 = 5 → (x2 = 6 → vp_in x1 80 ∧ (Q (σ 30 (x1).toNatClampNeg) σ)) ∧ (¬ x2 = 6 → (x2 = 7 → vp_in x1 80 ∧ (Q (σ 31 (x1).toNatClampNeg) σ)) ∧ (¬ x2 = 7 → (x2 = 8 → vp_in x1 80 ∧ (Q (σ 32 (x1).toNatClampNeg) σ)) ∧ (¬ x2 = 8 → vp_in x1 80 ∧ (Q (σ 33 (x1).toNatClampNeg) σ)))))))))) := n_if h (fun h => n_mb h (fun h => n_rt h)) (fun h => n_if h (fun h => n_mb h (fun h => n_rt h)) (fun h => n_if h (fun h => n_mb h (fun h => n_rt h)) (fun h => n_if h (fun h => n_mb h (fun h => n_rt h)) (fun h => n_if h (fun h => n_mb h (fun h => n_rt h)) (fun h => n_if h (fun h => n_mb h (fun h => n_rt h)) (fun h => n_if h (fun h => n_mb h (fun h => n_rt h)) (fun h => n_if h (fun h => n_mb h (fun h => n_rt h)) (fun h => n_if h (fun h => n_mb h (fun h => n_rt h)) (fun h => n_mb h (fun h => n_rt h))))))))))
  exact wpn_Ex (cuts := []) monCC (fun _ _ _ _ z => z) 8 0 _ _ _ v
-- TradeTests$Texts.addByte
set_option maxHeartbeats 20000000 in
set_option maxRecDepth 100000 in
theorem hp_27 {sc : Nat × (Nat → Int32)} {Q : Int32 → St → Prop} {x1 : Int32} {σ : St} (h : Ap (sp_27 x1 σ) Q) : Ex sc CC 1 cd_27 Q 0 [some (.ref 4), some (.int x1)] [] σ := by
  have v : vp_in (σ 4 1) 60 ∧ (Q ((σ 4 1) + 1) (up (up σ 38 (σ 4 1).toNatClampNeg x1) 4 1 ((σ 4 1) + 1))) := n_mb h (fun h => n_rt h)
  exact wpn_Ex (cuts := []) monCC (fun _ _ _ _ z => z) 16 0 _ _ _ v
-- TradeTests$Texts.clearNext
set_option maxHeartbeats 20000000 in
set_option maxRecDepth 100000 in
theorem hl_30_23 {sc : Nat × (Nat → Int32)} {Q : Int32 → St → Prop} : ∀ (n : Nat) (v1 : Int32) (σ : St), Ap (lp_30_23 n v1 σ) Q → Ex sc CC 0 cd_30 Q 23 [some (.ref 4), some (.int v1)] [] σ := by
  intro n
  induction n with
  | zero => intro v1 σ h; exact n_no h
  | succ n ih =>
    intro v1 σ h
    have v : (4 ≤ v1 → Q 0 σ) ∧ (¬ 4 ≤ v1 → vp_in (((σ 4 7) * 4) + v1) 24 ∧ (Ex sc CC 0 cd_30 Q 23 [some (.ref 4), some (.int (v1 + 1))] [] (up σ 42 (((σ 4 7) * 4) + v1).toNatClampNeg 0))) := n_if h (fun h => n_rt h) (fun h => n_mb h (fun h => ih (v1 + 1) (up σ 42 (((σ 4 7) * 4) + v1).toNatClampNeg 0) h))
    exact stw_Ex (cuts := [23]) monCC 16 v
set_option maxHeartbeats 20000000 in
set_option maxRecDepth 100000 in
theorem hp_30 {sc : Nat × (Nat → Int32)} {Q : Int32 → St → Prop}  {σ : St} (h : Ap (sp_30  σ) Q) : Ex sc CC 0 cd_30 Q 0 [some (.ref 4), none] [] σ := by
  have v : vp_in (σ 4 7) 6 ∧ (vp_in (σ 4 7) 6 ∧ (Ex sc CC 0 cd_30 Q 23 [some (.ref 4), some (.int 0)] [] (up (up σ 40 (σ 4 7).toNatClampNeg 0) 41 (σ 4 7).toNatClampNeg 100))) := n_mb h (fun h => n_mb h (fun h => hl_30_23 FU 0 (up (up σ 40 (σ 4 7).toNatClampNeg 0) 41 (σ 4 7).toNatClampNeg 100) h))
  exact wpn_Ex (cuts := [23]) monCC (fun _ _ _ _ z => z) 16 0 _ _ _ v
-- TradeTests$Texts.next
set_option maxHeartbeats 20000000 in
set_option maxRecDepth 100000 in
theorem hp_33 {sc : Nat × (Nat → Int32)} {Q : Int32 → St → Prop}  {σ : St} (h : Ap (sp_33  σ) Q) : Ex sc CC 1 cd_33 Q 0 [some (.ref 4)] [] σ := by
  have v : ((σ 4 1) ≤ (σ 4 2) → Q (-1) σ) ∧ (¬ (σ 4 1) ≤ (σ 4 2) → vp_in (σ 4 2) 60 ∧ (Q (σ 38 (σ 4 2).toNatClampNeg) σ)) := n_if h (fun h => n_rt h) (fun h => n_mb h (fun h => n_rt h))
  exact wpn_Ex (cuts := []) monCC (fun _ _ _ _ z => z) 13 0 _ _ _ v
-- TradeTests$Texts.isDigit
set_option maxHeartbeats 20000000 in
set_option maxRecDepth 100000 in
theorem hp_35 {sc : Nat × (Nat → Int32)} {Q : Int32 → St → Prop} {x1 x2 : Int32} {σ : St} (h : Ap (sp_35 x1 x2 σ) Q) : Ex sc CC 2 cd_35 Q 0 [some (.int x1), some (.int x2)] [] σ := by
  have v : (x1 < 48 → ((0 : Int32) = 0 ∨ (0 : Int32) = 1) ∧ Q 0 σ) ∧ (¬ x1 < 48 → (x2 < x1 → ((0 : Int32) = 0 ∨ (0 : Int32) = 1) ∧ Q 0 σ) ∧ (¬ x2 < x1 → ((1 : Int32) = 0 ∨ (1 : Int32) = 1) ∧ Q 1 σ)) := n_if h (fun h => n_rb h) (fun h => n_if h (fun h => n_rb h) (fun h => n_rb h))
  exact wpn_Ex (cuts := []) monCC (fun _ _ _ _ z => z) 10 0 _ _ _ v
-- TradeTests$Texts.kindOf
set_option maxHeartbeats 20000000 in
set_option maxRecDepth 100000 in
theorem hp_36 {sc : Nat × (Nat → Int32)} {Q : Int32 → St → Prop} {x1 : Int32} {σ : St} (h : Ap (sp_36 x1 σ) Q) : Ex sc CC 1 cd_36 Q 0 [some (.int x1)] [] σ := by
  have v : (x1 = 99 → Q 1 σ) ∧ (¬ x1 = 99 → (x1 = 114 → Q 3 σ) ∧ (¬ x1 = 114 → (x1 = 116 → Q 2 σ) ∧ (¬ x1 = 116 → (x1 = 118 → Q 0 σ) ∧ (¬ x1 = 118 → Q (-1) σ)))) := n_if h (fun h => n_rt h) (fun h => n_if h (fun h => n_rt h) (fun h => n_if h (fun h => n_rt h) (fun h => n_if h (fun h => n_rt h) (fun h => n_rt h))))
  exact wpn_Ex (cuts := []) monCC (fun _ _ _ _ z => z) 5 0 _ _ _ v
-- TradeTests$Texts.inForce
set_option maxHeartbeats 20000000 in
set_option maxRecDepth 100000 in
theorem hl_40_7 {sc : Nat × (Nat → Int32)} {Q : Int32 → St → Prop} : ∀ (n : Nat) (v1 : Int32) (v2 : Int32) (σ : St), Ap (lp_40_7 n v1 v2 σ) Q → Ex sc CC 1 cd_40 Q 7 [some (.ref 4), some (.int v1), some (.int v2)] [] σ := by
  intro n
  induction n with
  | zero => intro v1 v2 σ h; exact n_no h
  | succ n ih =>
    intro v1 v2 σ h
    have v : (v2 < 0 → Q (-1) σ) ∧ (¬ v2 < 0 → vp_in v2 6 ∧ ((v1 < (σ 39 (v2).toNatClampNeg) → Ex sc CC 1 cd_40 Q 7 [some (.ref 4), some (.int v1), some (.int (v2 + (-1)))] [] σ) ∧ (¬ v1 < (σ 39 (v2).toNatClampNeg) → Q v2 σ))) := n_if h (fun h => n_rt h) (fun h => n_mb h (fun h => n_if h (fun h => ih v1 (v2 + (-1)) σ h) (fun h => n_rt h)))
    exact stw_Ex (cuts := [7]) monCC 11 v
set_option maxHeartbeats 20000000 in
set_option maxRecDepth 100000 in
theorem hp_40 {sc : Nat × (Nat → Int32)} {Q : Int32 → St → Prop} {x1 : Int32} {σ : St} (h : Ap (sp_40 x1 σ) Q) : Ex sc CC 1 cd_40 Q 0 [some (.ref 4), some (.int x1), none] [] σ := by
  have v : Ex sc CC 1 cd_40 Q 7 [some (.ref 4), some (.int x1), some (.int ((σ 4 7) - 1))] [] σ := hl_40_7 FU x1 ((σ 4 7) - 1) σ h
  exact wpn_Ex (cuts := [7]) monCC (fun _ _ _ _ z => z) 7 0 _ _ _ v
-- TradeTests$Texts.failing
set_option maxHeartbeats 20000000 in
set_option maxRecDepth 100000 in
theorem hp_41 {sc : Nat × (Nat → Int32)} {Q : Int32 → St → Prop} {x1 x2 : Int32} {σ : St} (h : Ap (sp_41 x1 x2 σ) Q) : Ex sc CC 1 cd_41 Q 0 [some (.ref 4), some (.int x1), some (.int x2)] [] σ := by
  have v : vp_in ((x1 * 4) + x2) 24 ∧ (Q (σ 42 ((x1 * 4) + x2).toNatClampNeg) σ) := n_mb h (fun h => n_rt h)
  exact wpn_Ex (cuts := []) monCC (fun _ _ _ _ z => z) 10 0 _ _ _ v
-- TradeTests$Judge.brakesDo
set_option maxHeartbeats 20000000 in
set_option maxRecDepth 100000 in
theorem hp_44 {sc : Nat × (Nat → Int32)} {Q : Int32 → St → Prop} {x1 x2 x3 : Int32} {σ : St} (h : Ap (sp_44 x1 x2 x3 σ) Q) : Ex sc CC 2 cd_44 Q 0 [some (.ref 5), some (.int x1), some (.int x2), some (.int x3), none, none] [] σ := by
  have v : (x3 ≤ x2 → (x3 ≤ x2 → vp_in x1 6 ∧ ((x3 < (σ 40 (x1).toNatClampNeg) → ((0 : Int32) = 0 ∨ (0 : Int32) = 1) ∧ Q 0 σ) ∧ (¬ x3 < (σ 40 (x1).toNatClampNeg) → vp_in x1 6 ∧ (((x3 * 100) < (((100 : Int32) - (σ 41 (x1).toNatClampNeg)) * x2) → ((0 : Int32) = 0 ∨ (0 : Int32) = 1) ∧ Q 0 σ) ∧ (¬ (x3 * 100) < (((100 : Int32) - (σ 41 (x1).toNatClampNeg)) * x2) → ((1 : Int32) = 0 ∨ (1 : Int32) = 1) ∧ Q 1 σ))))) ∧ (¬ x3 ≤ x2 → vp_in x1 6 ∧ ((x3 < (σ 40 (x1).toNatClampNeg) → ((0 : Int32) = 0 ∨ (0 : Int32) = 1) ∧ Q 0 σ) ∧ (¬ x3 < (σ 40 (x1).toNatClampNeg) → vp_in x1 6 ∧ (((x3 * 100) < (((100 : Int32) - (σ 41 (x1).toNatClampNeg)) * x3) → ((0 : Int32) = 0 ∨ (0 : Int32) = 1) ∧ Q 0 σ) ∧ (¬ (x3 * 100) < (((100 : Int32) - (σ 41 (x1).toNatClampNeg)) * x3) → ((1 : Int32) = 0 ∨ (1 : Int32) = 1) ∧ Q 1 σ)))))) ∧ (¬ x3 ≤ x2 → (x3 ≤ x2 → vp_in x1 6 ∧ ((x2 < (σ 40 (x1).toNatClampNeg) → ((0 : Int32) = 0 ∨ (0 : Int32) = 1) ∧ Q 0 σ) ∧ (¬ x2 < (σ 40 (x1).toNatClampNeg) → vp_in x1 6 ∧ (((x2 * 100) < (((100 : Int32) - (σ 41 (x1).toNatClampNeg)) * x2) → ((0 : Int32) = 0 ∨ (0 : Int32) = 1) ∧ Q 0 σ) ∧ (¬ (x2 * 100) < (((100 : Int32) - (σ 41 (x1).toNatClampNeg)) * x2) → ((1 : Int32) = 0 ∨ (1 : Int32) = 1) ∧ Q 1 σ))))) ∧ (¬ x3 ≤ x2 → vp_in x1 6 ∧ ((x2 < (σ 40 (x1).toNatClampNeg) → ((0 : Int32) = 0 ∨ (0 : Int32) = 1) ∧ Q 0 σ) ∧ (¬ x2 < (σ 40 (x1).toNatClampNeg) → vp_in x1 6 ∧ (((x2 * 100) < (((100 : Int32) - (σ 41 (x1).toNatClampNeg)) * x3) → ((0 : Int32) = 0 ∨ (0 : Int32) = 1) ∧ Q 0 σ) ∧ (¬ (x2 * 100) < (((100 : Int32) - (σ 41 (x1).toNatClampNeg)) * x3) → ((1 : Int32) = 0 ∨ (1 : Int32) = 1) ∧ Q 1 σ)))))) := n_if h (fun h => n_if h (fun h => n_mb h (fun h => n_if h (fun h => n_rb h) (fun h => n_mb h (fun h => n_if h (fun h => n_rb h) (fun h => n_rb h))))) (fun h => n_mb h (fun h => n_if h (fun h => n_rb h) (fun h => n_mb h (fun h => n_if h (fun h => n_rb h) (fun h => n_rb h)))))) (fun h => n_if h (fun h => n_mb h (fun h => n_if h (fun h => n_rb h) (fun h => n_mb h (fun h => n_if h (fun h => n_rb h) (fun h => n_rb h))))) (fun h => n_mb h (fun h => n_if h (fun h => n_rb h) (fun h => n_mb h (fun h => n_if h (fun h => n_rb h) (fun h => n_rb h))))))
  exact wpn_Ex (cuts := []) monCC (fun _ _ _ _ z => z) 36 0 _ _ _ v
-- TradeTests$Signals.isQuick
set_option maxHeartbeats 20000000 in
set_option maxRecDepth 100000 in
theorem hp_54 {sc : Nat × (Nat → Int32)} {Q : Int32 → St → Prop} {x1 : Int32} {σ : St} (h : Ap (sp_54 x1 σ) Q) : Ex sc CC 2 cd_54 Q 0 [some (.ref 6), some (.int x1)] [] σ := by
  have v : vp_in x1 80 ∧ (vp_in x1 80 ∧ (vp_in (σ 24 (x1).toNatClampNeg) 24 ∧ (vp_in (σ 15 (σ 24 (x1).toNatClampNeg).toNatClampNeg) 4 ∧ ((((sV 1).getD (σ 15 (σ 24 (x1).toNatClampNeg).toNatClampNeg).toNatClampNeg 0) ≤ (σ 28 (x1).toNatClampNeg) → ((0 : Int32) = 0 ∨ (0 : Int32) = 1) ∧ Q 0 σ) ∧ (¬ ((sV 1).getD (σ 15 (σ 24 (x1).toNatClampNeg).toNatClampNeg).toNatClampNeg 0) ≤ (σ 28 (x1).toNatClampNeg) → ((1 : Int32) = 0 ∨ (1 : Int32) = 1) ∧ Q 1 σ))))) := n_mb h (fun h => n_mb h (fun h => n_mb h (fun h => n_mb h (fun h => n_if h (fun h => n_rb h) (fun h => n_rb h)))))
  exact wpn_Ex (cuts := []) monCC (fun _ _ _ _ z => z) 21 0 _ _ _ v
-- TradeTests$Signals.isMeeting
set_option maxHeartbeats 20000000 in
set_option maxRecDepth 100000 in
theorem hp_56 {sc : Nat × (Nat → Int32)} {Q : Int32 → St → Prop} {x1 x2 : Int32} {σ : St} (h : Ap (sp_56 x1 x2 σ) Q) : Ex sc CC 2 cd_56 Q 0 [some (.ref 6), some (.int x1), some (.int x2)] [] σ := by
  have v : vp_in x1 80 ∧ (vp_in x2 80 ∧ ((¬ (σ 26 (x1).toNatClampNeg) = (σ 26 (x2).toNatClampNeg) → ((0 : Int32) = 0 ∨ (0 : Int32) = 1) ∧ Q 0 σ) ∧ ((σ 26 (x1).toNatClampNeg) = (σ 26 (x2).toNatClampNeg) → vp_in x1 80 ∧ (vp_in x2 80 ∧ (vp_in x2 80 ∧ ((((σ 27 (x2).toNatClampNeg) + (σ 28 (x2).toNatClampNeg)) ≤ (σ 27 (x1).toNatClampNeg) → ((0 : Int32) = 0 ∨ (0 : Int32) = 1) ∧ Q 0 σ) ∧ (¬ ((σ 27 (x2).toNatClampNeg) + (σ 28 (x2).toNatClampNeg)) ≤ (σ 27 (x1).toNatClampNeg) → vp_in x2 80 ∧ (vp_in x1 80 ∧ (vp_in x1 80 ∧ ((((σ 27 (x1).toNatClampNeg) + (σ 28 (x1).toNatClampNeg)) ≤ (σ 27 (x2).toNatClampNeg) → ((0 : Int32) = 0 ∨ (0 : Int32) = 1) ∧ Q 0 σ) ∧ (¬ ((σ 27 (x1).toNatClampNeg) + (σ 28 (x1).toNatClampNeg)) ≤ (σ 27 (x2).toNatClampNeg) → ((1 : Int32) = 0 ∨ (1 : Int32) = 1) ∧ Q 1 σ))))))))))) := n_mb h (fun h => n_mb h (fun h => n_ne h (fun h => n_mb h (fun h => n_mb h (fun h => n_mb h (fun h => n_if h (fun h => n_rb h) (fun h => n_mb h (fun h => n_mb h (fun h => n_mb h (fun h => n_if h (fun h => n_rb h) (fun h => n_rb h))))))))) (fun h => n_rb h)))
  exact wpn_Ex (cuts := []) monCC (fun _ _ _ _ z => z) 49 0 _ _ _ v
-- java/lang/Integer.bitCount
set_option maxHeartbeats 20000000 in
set_option maxRecDepth 100000 in
theorem hp_59 {sc : Nat × (Nat → Int32)} {Q : Int32 → St → Prop} {x1 : Int32} {σ : St} (h : Ap (sp_59 x1 σ) Q) : Ex sc CC 1 cd_59 Q 0 [some (.int x1)] [] σ := by
  have v : Q ((((((((x1 - (((x1.toUInt32 >>> ((1 : Int32).toUInt32 &&& Int32.toUInt32 31)).toInt32) &&& 1431655765)) &&& 858993459) + ((((x1 - (((x1.toUInt32 >>> ((1 : Int32).toUInt32 &&& Int32.toUInt32 31)).toInt32) &&& 1431655765)).toUInt32 >>> ((2 : Int32).toUInt32 &&& Int32.toUInt32 31)).toInt32) &&& 858993459)) + (((((x1 - (((x1.toUInt32 >>> ((1 : Int32).toUInt32 &&& Int32.toUInt32 31)).toInt32) &&& 1431655765)) &&& 858993459) + ((((x1 - (((x1.toUInt32 >>> ((1 : Int32).toUInt32 &&& Int32.toUInt32 31)).toInt32) &&& 1431655765)).toUInt32 >>> ((2 : Int32).toUInt32 &&& Int32.toUInt32 31)).toInt32) &&& 858993459)).toUInt32 >>> ((4 : Int32).toUInt32 &&& Int32.toUInt32 31)).toInt32)) &&& 252645135) + (((((((x1 - (((x1.toUInt32 >>> ((1 : Int32).toUInt32 &&& Int32.toUInt32 31)).toInt32) &&& 1431655765)) &&& 858993459) + ((((x1 - (((x1.toUInt32 >>> ((1 : Int32).toUInt32 &&& Int32.toUInt32 31)).toInt32) &&& 1431655765)).toUInt32 >>> ((2 : Int32).toUInt32 &&& Int32.toUInt32 31)).toInt32) &&& 858993459)) + (((((x1 - (((x1.toUInt32 >>> ((1 : Int32).toUInt32 &&& Int32.toUInt32 31)).toInt32) &&& 1431655765)) &&& 858993459) + ((((x1 - (((x1.toUInt32 >>> ((1 : Int32).toUInt32 &&& Int32.toUInt32 31)).toInt32) &&& 1431655765)).toUInt32 >>> ((2 : Int32).toUInt32 &&& Int32.toUInt32 31)).toInt32) &&& 858993459)).toUInt32 >>> ((4 : Int32).toUInt32 &&& Int32.toUInt32 31)).toInt32)) &&& 252645135).toUInt32 >>> ((8 : Int32).toUInt32 &&& Int32.toUInt32 31)).toInt32)) + ((((((((x1 - (((x1.toUInt32 >>> ((1 : Int32).toUInt32 &&& Int32.toUInt32 31)).toInt32) &&& 1431655765)) &&& 858993459) + ((((x1 - (((x1.toUInt32 >>> ((1 : Int32).toUInt32 &&& Int32.toUInt32 31)).toInt32) &&& 1431655765)).toUInt32 >>> ((2 : Int32).toUInt32 &&& Int32.toUInt32 31)).toInt32) &&& 858993459)) + (((((x1 - (((x1.toUInt32 >>> ((1 : Int32).toUInt32 &&& Int32.toUInt32 31)).toInt32) &&& 1431655765)) &&& 858993459) + ((((x1 - (((x1.toUInt32 >>> ((1 : Int32).toUInt32 &&& Int32.toUInt32 31)).toInt32) &&& 1431655765)).toUInt32 >>> ((2 : Int32).toUInt32 &&& Int32.toUInt32 31)).toInt32) &&& 858993459)).toUInt32 >>> ((4 : Int32).toUInt32 &&& Int32.toUInt32 31)).toInt32)) &&& 252645135) + (((((((x1 - (((x1.toUInt32 >>> ((1 : Int32).toUInt32 &&& Int32.toUInt32 31)).toInt32) &&& 1431655765)) &&& 858993459) + ((((x1 - (((x1.toUInt32 >>> ((1 : Int32).toUInt32 &&& Int32.toUInt32 31)).toInt32) &&& 1431655765)).toUInt32 >>> ((2 : Int32).toUInt32 &&& Int32.toUInt32 31)).toInt32) &&& 858993459)) + (((((x1 - (((x1.toUInt32 >>> ((1 : Int32).toUInt32 &&& Int32.toUInt32 31)).toInt32) &&& 1431655765)) &&& 858993459) + ((((x1 - (((x1.toUInt32 >>> ((1 : Int32).toUInt32 &&& Int32.toUInt32 31)).toInt32) &&& 1431655765)).toUInt32 >>> ((2 : Int32).toUInt32 &&& Int32.toUInt32 31)).toInt32) &&& 858993459)).toUInt32 >>> ((4 : Int32).toUInt32 &&& Int32.toUInt32 31)).toInt32)) &&& 252645135).toUInt32 >>> ((8 : Int32).toUInt32 &&& Int32.toUInt32 31)).toInt32)).toUInt32 >>> ((16 : Int32).toUInt32 &&& Int32.toUInt32 31)).toInt32)) &&& 63) σ := n_rt h
  exact wpn_Ex (cuts := []) monCC (fun _ _ _ _ z => z) 43 0 _ _ _ v
-- TradeTests$Secrets.isVisited
set_option maxHeartbeats 20000000 in
set_option maxRecDepth 100000 in
theorem hp_61 {sc : Nat × (Nat → Int32)} {Q : Int32 → St → Prop} {x1 : Int32} {σ : St} (h : Ap (sp_61 x1 σ) Q) : Ex sc CC 2 cd_61 Q 0 [some (.ref 9), some (.int x1)] [] σ := by
  have v : vp_in x1 80 ∧ (((σ 35 (x1).toNatClampNeg) ≤ 0 → ((0 : Int32) = 0 ∨ (0 : Int32) = 1) ∧ Q 0 σ) ∧ (¬ (σ 35 (x1).toNatClampNeg) ≤ 0 → ((1 : Int32) = 0 ∨ (1 : Int32) = 1) ∧ Q 1 σ)) := n_mb h (fun h => n_if h (fun h => n_rb h) (fun h => n_rb h))
  exact wpn_Ex (cuts := []) monCC (fun _ _ _ _ z => z) 10 0 _ _ _ v
-- TradeTests$Vehicles.ageClass
set_option maxHeartbeats 20000000 in
set_option maxRecDepth 100000 in
theorem hp_65 {sc : Nat × (Nat → Int32)} {Q : Int32 → St → Prop} {x1 x2 : Int32} {σ : St} (h : Ap (sp_65 x1 x2 σ) Q) : Ex sc CC 1 cd_65 Q 0 [some (.ref 1), some (.int x1), some (.int x2), none] [] σ := by
  have v : vp_in x1 24 ∧ (¬ (365 : Int32) = 0 ∧ ((3 ≤ ((x2 - (σ 17 (x1).toNatClampNeg)) / 365) → (6 ≤ ((x2 - (σ 17 (x1).toNatClampNeg)) / 365) → (10 ≤ ((x2 - (σ 17 (x1).toNatClampNeg)) / 365) → Q 3 σ) ∧ (¬ 10 ≤ ((x2 - (σ 17 (x1).toNatClampNeg)) / 365) → Q 2 σ)) ∧ (¬ 6 ≤ ((x2 - (σ 17 (x1).toNatClampNeg)) / 365) → Q 1 σ)) ∧ (¬ 3 ≤ ((x2 - (σ 17 (x1).toNatClampNeg)) / 365) → Q 0 σ))) := n_mb h (fun h => n_mb h (fun h => n_if h (fun h => n_if h (fun h => n_if h (fun h => n_rt h) (fun h => n_rt h)) (fun h => n_rt h)) (fun h => n_rt h)))
  exact wpn_Ex (cuts := []) monCC (fun _ _ _ _ z => z) 22 0 _ _ _ v
-- TradeTests$Rates.cellShare
set_option maxHeartbeats 20000000 in
set_option maxRecDepth 100000 in
theorem hp_67 {sc : Nat × (Nat → Int32)} {Q : Int32 → St → Prop} {x1 : Int32} {σ : St} (h : Ap (sp_67 x1 σ) Q) : Ex sc CC 1 cd_67 Q 0 [some (.ref 7), some (.int x1)] [] σ := by
  have v : vp_in x1 16 ∧ (((σ 43 (x1).toNatClampNeg) ≤ 0 → Q (-1) σ) ∧ (¬ (σ 43 (x1).toNatClampNeg) ≤ 0 → vp_in x1 16 ∧ (vp_in x1 16 ∧ (¬ (σ 43 (x1).toNatClampNeg) = 0 ∧ (Q (((1000 : Int32) * (σ 44 (x1).toNatClampNeg)) / (σ 43 (x1).toNatClampNeg)) σ))))) := n_mb h (fun h => n_if h (fun h => n_rt h) (fun h => n_mb h (fun h => n_mb h (fun h => n_mb h (fun h => n_rt h)))))
  exact wpn_Ex (cuts := []) monCC (fun _ _ _ _ z => z) 19 0 _ _ _ v
-- TradeTests$Rates.more
set_option maxHeartbeats 20000000 in
set_option maxRecDepth 100000 in
theorem hp_68 {sc : Nat × (Nat → Int32)} {Q : Int32 → St → Prop}  {σ : St} (h : Ap (sp_68  σ) Q) : Ex sc CC 1 cd_68 Q 0 [some (.ref 7)] [] σ := by
  have v : Q (((1000 : Int32) * (σ 7 6)) - (σ 7 7)) σ := n_rt h
  exact wpn_Ex (cuts := []) monCC (fun _ _ _ _ z => z) 9 0 _ _ _ v
-- TradeTests$Odometer.milesAhead
set_option maxHeartbeats 20000000 in
set_option maxRecDepth 100000 in
theorem hl_77_4 {sc : Nat × (Nat → Int32)} {Q : Int32 → St → Prop} : ∀ (n : Nat) (v1 : Int32) (v2 : Int32) (σ : St), Ap (lp_77_4 n v1 v2 σ) Q → Ex sc CC 1 cd_77 Q 4 [some (.ref 8), some (.int v1), some (.int v2)] [] σ := by
  intro n
  induction n with
  | zero => intro v1 v2 σ h; exact n_no h
  | succ n ih =>
    intro v1 v2 σ h
    have v : (v2 < 0 → Q 0 σ) ∧ (¬ v2 < 0 → vp_in v2 80 ∧ (vp_in v1 80 ∧ ((¬ (σ 24 (v2).toNatClampNeg) = (σ 24 (v1).toNatClampNeg) → Ex sc CC 1 cd_77 Q 4 [some (.ref 8), some (.int v1), some (.int (v2 + (-1)))] [] σ) ∧ ((σ 24 (v2).toNatClampNeg) = (σ 24 (v1).toNatClampNeg) → vp_in v2 80 ∧ (Q (σ 29 (v2).toNatClampNeg) σ))))) := n_if h (fun h => n_rt h) (fun h => n_mb h (fun h => n_mb h (fun h => n_ne h (fun h => n_mb h (fun h => n_rt h)) (fun h => ih v1 (v2 + (-1)) σ h))))
    exact stw_Ex (cuts := [4]) monCC 19 v
set_option maxHeartbeats 20000000 in
set_option maxRecDepth 100000 in
theorem hp_77 {sc : Nat × (Nat → Int32)} {Q : Int32 → St → Prop} {x1 : Int32} {σ : St} (h : Ap (sp_77 x1 σ) Q) : Ex sc CC 1 cd_77 Q 0 [some (.ref 8), some (.int x1), none] [] σ := by
  have v : Ex sc CC 1 cd_77 Q 4 [some (.ref 8), some (.int x1), some (.int (x1 - 1))] [] σ := hl_77_4 FU x1 (x1 - 1) σ h
  exact wpn_Ex (cuts := [4]) monCC (fun _ _ _ _ z => z) 6 0 _ _ _ v
-- TradeTests$Odometer.milesBehind
set_option maxHeartbeats 20000000 in
set_option maxRecDepth 100000 in
theorem hl_78_4 {sc : Nat × (Nat → Int32)} {Q : Int32 → St → Prop} : ∀ (n : Nat) (v1 : Int32) (v2 : Int32) (σ : St), Ap (lp_78_4 n v1 v2 σ) Q → Ex sc CC 1 cd_78 Q 4 [some (.ref 8), some (.int v1), some (.int v2)] [] σ := by
  intro n
  induction n with
  | zero => intro v1 v2 σ h; exact n_no h
  | succ n ih =>
    intro v1 v2 σ h
    have v : ((σ 3 14) ≤ v2 → Q 999999 σ) ∧ (¬ (σ 3 14) ≤ v2 → vp_in v2 80 ∧ (vp_in v1 80 ∧ ((¬ (σ 24 (v2).toNatClampNeg) = (σ 24 (v1).toNatClampNeg) → Ex sc CC 1 cd_78 Q 4 [some (.ref 8), some (.int v1), some (.int (v2 + 1))] [] σ) ∧ ((σ 24 (v2).toNatClampNeg) = (σ 24 (v1).toNatClampNeg) → vp_in v2 80 ∧ (Q (σ 29 (v2).toNatClampNeg) σ))))) := n_if h (fun h => n_rt h) (fun h => n_mb h (fun h => n_mb h (fun h => n_ne h (fun h => n_mb h (fun h => n_rt h)) (fun h => ih v1 (v2 + 1) σ h))))
    exact stw_Ex (cuts := [4]) monCC 22 v
set_option maxHeartbeats 20000000 in
set_option maxRecDepth 100000 in
theorem hp_78 {sc : Nat × (Nat → Int32)} {Q : Int32 → St → Prop} {x1 : Int32} {σ : St} (h : Ap (sp_78 x1 σ) Q) : Ex sc CC 1 cd_78 Q 0 [some (.ref 8), some (.int x1), none] [] σ := by
  have v : Ex sc CC 1 cd_78 Q 4 [some (.ref 8), some (.int x1), some (.int (x1 + 1))] [] σ := hl_78_4 FU x1 (x1 + 1) σ h
  exact wpn_Ex (cuts := [4]) monCC (fun _ _ _ _ z => z) 6 0 _ _ _ v
-- TradeTests$Odometer.isTyped
set_option maxHeartbeats 20000000 in
set_option maxRecDepth 100000 in
theorem hl_79_31 {sc : Nat × (Nat → Int32)} {Q : Int32 → St → Prop} (ko : Int32 → Int32 → Int32 → Int32 → St → MR) (hko : ∀ (v0 : Int32) (v1 : Int32) (v2 : Int32) (v3 : Int32) (σ : St), Ap (ko v0 v1 v2 v3 σ) Q → Ex sc CC 2 cd_79 Q 2 [some (.int v0), some (.int v1), some (.int v2), some (.int v3), none, none] [] σ) : ∀ (n : Nat) (v0 : Int32) (v1 : Int32) (v2 : Int32) (v3 : Int32) (v4 : Int32) (v5 : Int32) (σ : St), Ap (lp_79_31 ko n v0 v1 v2 v3 v4 v5 σ) Q → Ex sc CC 2 cd_79 Q 31 [some (.int v0), some (.int v1), some (.int v2), some (.int v3), some (.int v4), some (.int v5)] [] σ := by
  intro n
  induction n with
  | zero => intro v0 v1 v2 v3 v4 v5 σ h; exact n_no h
  | succ n ih =>
    intro v0 v1 v2 v3 v4 v5 σ h
    have v : (10 ≤ v5 → Ex sc CC 2 cd_79 Q 2 [some (.int v0), some (.int v1), some (.int v2), some (.int (v3 * 10)), some (.int v4), some (.int v5)] [] σ) ∧ (¬ 10 ≤ v5 → ((v4 + v3) < v1 → Ex sc CC 2 cd_79 Q 31 [some (.int v0), some (.int v1), some (.int v2), some (.int v3), some (.int (v4 + v3)), some (.int (v5 + 1))] [] σ) ∧ (¬ (v4 + v3) < v1 → (v2 < (v4 + v3) → Ex sc CC 2 cd_79 Q 31 [some (.int v0), some (.int v1), some (.int v2), some (.int v3), some (.int (v4 + v3)), some (.int (v5 + 1))] [] σ) ∧ (¬ v2 < (v4 + v3) → ((1 : Int32) = 0 ∨ (1 : Int32) = 1) ∧ Q 1 σ))) := n_if h (fun h => Ex_fg [true, true, true, true, false, false] (hko v0 v1 v2 (v3 * 10) σ h)) (fun h => n_if h (fun h => ih v0 v1 v2 v3 (v4 + v3) (v5 + 1) σ h) (fun h => n_if h (fun h => ih v0 v1 v2 v3 (v4 + v3) (v5 + 1) σ h) (fun h => n_rb h)))
    exact stw_Ex (cuts := [2, 31]) monCC 16 v
set_option maxHeartbeats 20000000 in
set_option maxRecDepth 100000 in
theorem hl_79_2 {sc : Nat × (Nat → Int32)} {Q : Int32 → St → Prop} : ∀ (n : Nat) (v0 : Int32) (v1 : Int32) (v2 : Int32) (v3 : Int32) (σ : St), Ap (lp_79_2 n v0 v1 v2 v3 σ) Q → Ex sc CC 2 cd_79 Q 2 [some (.int v0), some (.int v1), some (.int v2), some (.int v3), none, none] [] σ := by
  intro n
  induction n with
  | zero => intro v0 v1 v2 v3 σ h; exact n_no h
  | succ n ih =>
    intro v0 v1 v2 v3 σ h
    have v : (1000000 ≤ v3 → ((0 : Int32) = 0 ∨ (0 : Int32) = 1) ∧ Q 0 σ) ∧ (¬ 1000000 ≤ v3 → (v3 = 1 → ¬ v3 = 0 ∧ (¬ (10 : Int32) = 0 ∧ (Ex sc CC 2 cd_79 Q 31 [some (.int v0), some (.int v1), some (.int v2), some (.int v3), some (.int v0), some (.int (((v0 / v3) - (v0 / v3) / 10 * 10) + 1))] [] σ))) ∧ (¬ v3 = 1 → (v0 < v3 → ((0 : Int32) = 0 ∨ (0 : Int32) = 1) ∧ Q 0 σ) ∧ (¬ v0 < v3 → ¬ v3 = 0 ∧ (¬ (10 : Int32) = 0 ∧ (Ex sc CC 2 cd_79 Q 31 [some (.int v0), some (.int v1), some (.int v2), some (.int v3), some (.int v0), some (.int (((v0 / v3) - (v0 / v3) / 10 * 10) + 1))] [] σ))))) := n_if h (fun h => n_rb h) (fun h => n_if h (fun h => n_mb h (fun h => n_mb h (fun h => hl_79_31 (fun v0 v1 v2 v3 σ => lp_79_2 n v0 v1 v2 v3 σ) ih FU v0 v1 v2 v3 v0 (((v0 / v3) - (v0 / v3) / 10 * 10) + 1) σ h))) (fun h => n_if h (fun h => n_rb h) (fun h => n_mb h (fun h => n_mb h (fun h => hl_79_31 (fun v0 v1 v2 v3 σ => lp_79_2 n v0 v1 v2 v3 σ) ih FU v0 v1 v2 v3 v0 (((v0 / v3) - (v0 / v3) / 10 * 10) + 1) σ h)))))
    exact stw_Ex (cuts := [2, 31]) monCC 20 v
set_option maxHeartbeats 20000000 in
set_option maxRecDepth 100000 in
theorem hp_79 {sc : Nat × (Nat → Int32)} {Q : Int32 → St → Prop} {x1 x2 x3 : Int32} {σ : St} (h : Ap (sp_79 x1 x2 x3 σ) Q) : Ex sc CC 2 cd_79 Q 0 [some (.int x1), some (.int x2), some (.int x3), none, none, none] [] σ := by
  have v : Ex sc CC 2 cd_79 Q 2 [some (.int x1), some (.int x2), some (.int x3), some (.int 1), none, none] [] σ := hl_79_2 FU x1 x2 x3 1 σ h
  exact wpn_Ex (cuts := [2, 31]) monCC (fun _ _ _ _ z => z) 4 0 _ _ _ v
-- TradeTests$Penalties.setRule
set_option maxHeartbeats 20000000 in
set_option maxRecDepth 100000 in
theorem hp_82 {sc : Nat × (Nat → Int32)} {Q : Int32 → St → Prop} {x1 x2 : Int32} {σ : St} (h : Ap (sp_82 x1 x2 σ) Q) : Ex sc CC 1 cd_82 Q 0 [some (.ref 10), some (.int x1), some (.int x2), none] [] σ := by
  have v : vp_in x1 3 ∧ (vp_in x1 3 ∧ (Q (σ 46 (x1).toNatClampNeg) (up σ 46 (x1).toNatClampNeg x2))) := n_mb h (fun h => n_mb h (fun h => n_rt h))
  exact wpn_Ex (cuts := []) monCC (fun _ _ _ _ z => z) 13 0 _ _ _ v
-- TradeTests$Penalties.rowSum
set_option maxHeartbeats 20000000 in
set_option maxRecDepth 100000 in
theorem hl_90_4 {sc : Nat × (Nat → Int32)} {Q : Int32 → St → Prop} : ∀ (n : Nat) (v1 : Int32) (v2 : Int32) (v3 : Int32) (σ : St), Ap (lp_90_4 n v1 v2 v3 σ) Q → Ex sc CC 1 cd_90 Q 4 [some (.ref 10), some (.int v1), some (.int v2), some (.int v3)] [] σ := by
  intro n
  induction n with
  | zero => intro v1 v2 v3 σ h; exact n_no h
  | succ n ih =>
    intro v1 v2 v3 σ h
    have v : ((σ 3 14) ≤ v3 → Q v2 σ) ∧ (¬ (σ 3 14) ≤ v3 → vp_in v3 80 ∧ ((v1 < (σ 26 (v3).toNatClampNeg) → Ex sc CC 1 cd_90 Q 4 [some (.ref 10), some (.int v1), some (.int v2), some (.int (v3 + 1))] [] σ) ∧ (¬ v1 < (σ 26 (v3).toNatClampNeg) → vp_in v3 80 ∧ (vp_in 0 3 ∧ (((σ 26 (v3).toNatClampNeg) ≤ (v1 - (σ 46 (0 : Int32).toNatClampNeg)) → Ex sc CC 1 cd_90 Q 4 [some (.ref 10), some (.int v1), some (.int v2), some (.int (v3 + 1))] [] σ) ∧ (¬ (σ 26 (v3).toNatClampNeg) ≤ (v1 - (σ 46 (0 : Int32).toNatClampNeg)) → vp_in v3 80 ∧ (Ex sc CC 1 cd_90 Q 4 [some (.ref 10), some (.int v1), some (.int (v2 + (σ 47 (v3).toNatClampNeg))), some (.int (v3 + 1))] [] σ))))))) := n_if h (fun h => n_rt h) (fun h => n_mb h (fun h => n_if h (fun h => ih v1 v2 (v3 + 1) σ h) (fun h => n_mb h (fun h => n_mb h (fun h => n_if h (fun h => ih v1 v2 (v3 + 1) σ h) (fun h => n_mb h (fun h => ih v1 (v2 + (σ 47 (v3).toNatClampNeg)) (v3 + 1) σ h)))))))
    exact stw_Ex (cuts := [4]) monCC 34 v
set_option maxHeartbeats 20000000 in
set_option maxRecDepth 100000 in
theorem hp_90 {sc : Nat × (Nat → Int32)} {Q : Int32 → St → Prop} {x1 : Int32} {σ : St} (h : Ap (sp_90 x1 σ) Q) : Ex sc CC 1 cd_90 Q 0 [some (.ref 10), some (.int x1), none, none] [] σ := by
  have v : Ex sc CC 1 cd_90 Q 4 [some (.ref 10), some (.int x1), some (.int 0), some (.int 0)] [] σ := hl_90_4 FU x1 0 0 σ h
  exact wpn_Ex (cuts := [4]) monCC (fun _ _ _ _ z => z) 6 0 _ _ _ v
-- TradeTests$Secrets.add
set_option maxHeartbeats 20000000 in
set_option maxRecDepth 100000 in
theorem hp_94 {sc : Nat × (Nat → Int32)} {Q : Int32 → St → Prop} {x1 : Int32} {σ : St} (h : Ap (sp_94 x1 σ) Q) : Ex sc CC 1 cd_94 Q 0 [some (.ref 9), some (.int x1)] [] σ := by
  have v : vp_in (σ 9 3) 6 ∧ (Q (((σ 9 3) + 1) - 1) (up (up σ 45 (σ 9 3).toNatClampNeg x1) 9 3 ((σ 9 3) + 1))) := n_mb h (fun h => n_rt h)
  exact wpn_Ex (cuts := []) monCC (fun _ _ _ _ z => z) 18 0 _ _ _ v
-- TradeTests$Secrets.send
set_option maxHeartbeats 20000000 in
set_option maxRecDepth 100000 in
theorem hp_96 {sc : Nat × (Nat → Int32)} {Q : Int32 → St → Prop} {x1 x2 : Int32} {σ : St} (h : Ap (sp_96 x1 x2 σ) Q) : Ex sc CC 0 cd_96 Q 0 [some (.ref 9), some (.int x1), some (.int x2)] [] σ := by
  have v : vp_in x2 80 ∧ (Q 0 (up (up σ 35 (x2).toNatClampNeg ((1 : Int32) + x1)) 9 4 ((σ 9 4) + 1))) := n_mb h (fun h => n_rt h)
  exact wpn_Ex (cuts := []) monCC (fun _ _ _ _ z => z) 16 0 _ _ _ v
-- TradeTests$Plan.isFree
set_option maxHeartbeats 20000000 in
set_option maxRecDepth 100000 in
theorem hp_104 {sc : Nat × (Nat → Int32)} {Q : Int32 → St → Prop} {x1 x2 : Int32} {σ : St} (h : Ap (sp_104 x1 x2 σ) Q) : Ex sc CC 2 cd_104 Q 0 [some (.int x1), some (.int x2)] [] σ := by
  have v : (¬ ((x1 >>> (x2 &&& 31)) &&& 1) = 0 → ((0 : Int32) = 0 ∨ (0 : Int32) = 1) ∧ Q 0 σ) ∧ (((x1 >>> (x2 &&& 31)) &&& 1) = 0 → ((1 : Int32) = 0 ∨ (1 : Int32) = 1) ∧ Q 1 σ) := n_ne h (fun h => n_rb h) (fun h => n_rb h)
  exact wpn_Ex (cuts := []) monCC (fun _ _ _ _ z => z) 10 0 _ _ _ v
-- TradeTests$Plan.mostWith
set_option maxHeartbeats 20000000 in
set_option maxRecDepth 100000 in
theorem hp_105 {sc : Nat × (Nat → Int32)} {Q : Int32 → St → Prop} {x1 x2 x3 : Int32} {σ : St} (h : Ap (sp_105 x1 x2 x3 σ) Q) : Ex sc CC 1 cd_105 Q 0 [some (.ref 11), some (.int x1), some (.int x2), some (.int x3)] [] σ := by
  have v : vp_in ((x1 * 6) + x2) 36 ∧ (vp_in (((x1 + 1) * 64) + (x3 ||| ((1 : Int32) <<< (x2 &&& 31)))) 448 ∧ (Q ((σ 48 ((x1 * 6) + x2).toNatClampNeg) + (σ 49 (((x1 + 1) * 64) + (x3 ||| ((1 : Int32) <<< (x2 &&& 31)))).toNatClampNeg)) σ)) := n_mb h (fun h => n_mb h (fun h => n_rt h))
  exact wpn_Ex (cuts := []) monCC (fun _ _ _ _ z => z) 25 0 _ _ _ v
-- TradeTests$Plan.most
set_option maxHeartbeats 20000000 in
set_option maxRecDepth 100000 in
theorem hp_107 {sc : Nat × (Nat → Int32)} {Q : Int32 → St → Prop}  {σ : St} (h : Ap (sp_107  σ) Q) : Ex sc CC 1 cd_107 Q 0 [some (.ref 11)] [] σ := by
  have v : vp_in 0 448 ∧ (Q (σ 49 (0 : Int32).toNatClampNeg) σ) := n_mb h (fun h => n_rt h)
  exact wpn_Ex (cuts := []) monCC (fun _ _ _ _ z => z) 6 0 _ _ _ v
-- TradeTests$Tests.isDrawn
set_option maxHeartbeats 20000000 in
set_option maxRecDepth 100000 in
theorem hp_111 {sc : Nat × (Nat → Int32)} {Q : Int32 → St → Prop} {x1 : Int32} {σ : St} (h : Ap (sp_111 x1 σ) Q) : Ex sc CC 2 cd_111 Q 0 [some (.ref 3), some (.int x1)] [] σ := by
  have v : vp_in x1 80 ∧ (((σ 36 (x1).toNatClampNeg) ≤ 0 → ((0 : Int32) = 0 ∨ (0 : Int32) = 1) ∧ Q 0 σ) ∧ (¬ (σ 36 (x1).toNatClampNeg) ≤ 0 → ((1 : Int32) = 0 ∨ (1 : Int32) = 1) ∧ Q 1 σ)) := n_mb h (fun h => n_if h (fun h => n_rb h) (fun h => n_rb h))
  exact wpn_Ex (cuts := []) monCC (fun _ _ _ _ z => z) 9 0 _ _ _ v
-- TradeTests$Tests.addDraw
set_option maxHeartbeats 20000000 in
set_option maxRecDepth 100000 in
theorem hp_112 {sc : Nat × (Nat → Int32)} {Q : Int32 → St → Prop} {x1 x2 x3 : Int32} {σ : St} (h : Ap (sp_112 x1 x2 x3 σ) Q) : Ex sc CC 1 cd_112 Q 0 [some (.ref 3), some (.int x1), some (.int x2), some (.int x3)] [] σ := by
  have v : vp_in x1 80 ∧ (vp_in x1 80 ∧ (Q ((σ 3 15) + 1) (up (up (up σ 36 (x1).toNatClampNeg x2) 37 (x1).toNatClampNeg x3) 3 15 ((σ 3 15) + 1)))) := n_mb h (fun h => n_mb h (fun h => n_rt h))
  exact wpn_Ex (cuts := []) monCC (fun _ _ _ _ z => z) 20 0 _ _ _ v
-- TradeTests$Tests.drawnError
set_option maxHeartbeats 20000000 in
set_option maxRecDepth 100000 in
theorem hl_114_6 {sc : Nat × (Nat → Int32)} {Q : Int32 → St → Prop} : ∀ (n : Nat) (v1 : Int32) (v2 : Int32) (v3 : Int32) (σ : St), Ap (lp_114_6 n v1 v2 v3 σ) Q → Ex sc CC 1 cd_114 Q 6 [some (.ref 3), some (.int v1), some (.int v2), some (.int v3), none] [] σ := by
  intro n
  induction n with
  | zero => intro v1 v2 v3 σ h; exact n_no h
  | succ n ih =>
    intro v1 v2 v3 σ h
    have v : ((σ 3 14) ≤ v3 → (v1 ≤ 0 → Q (-1) σ) ∧ (¬ v1 ≤ 0 → ¬ v1 = 0 ∧ (Q ((v2 * 1000) / v1) σ))) ∧ (¬ (σ 3 14) ≤ v3 → vp_in v3 80 ∧ (((σ 36 (v3).toNatClampNeg) ≤ 0 → Ex sc CC 1 cd_114 Q 6 [some (.ref 3), some (.int v1), some (.int v2), some (.int (v3 + 1)), none] [] σ) ∧ (¬ (σ 36 (v3).toNatClampNeg) ≤ 0 → vp_in v3 80 ∧ (¬ (σ 36 (v3).toNatClampNeg) = 0 ∧ (vp_in v3 80 ∧ (Ex sc CC 1 cd_114 Q 6 [some (.ref 3), some (.int (v1 + ((10000 : Int32) / (σ 36 (v3).toNatClampNeg)))), some (.int (v2 + ((σ 37 (v3).toNatClampNeg) * ((10000 : Int32) / (σ 36 (v3).toNatClampNeg))))), some (.int (v3 + 1)), some (.int ((10000 : Int32) / (σ 36 (v3).toNatClampNeg)))] [] σ)))))) := n_if h (fun h => n_if h (fun h => n_rt h) (fun h => n_mb h (fun h => n_rt h))) (fun h => n_mb h (fun h => n_if h (fun h => ih v1 v2 (v3 + 1) σ h) (fun h => n_mb h (fun h => n_mb h (fun h => n_mb h (fun h => Ex_fg [true, true, true, true, false] (ih (v1 + ((10000 : Int32) / (σ 36 (v3).toNatClampNeg))) (v2 + ((σ 37 (v3).toNatClampNeg) * ((10000 : Int32) / (σ 36 (v3).toNatClampNeg)))) (v3 + 1) σ h)))))))
    exact stw_Ex (cuts := [6]) monCC 32 v
set_option maxHeartbeats 20000000 in
set_option maxRecDepth 100000 in
theorem hp_114 {sc : Nat × (Nat → Int32)} {Q : Int32 → St → Prop}  {σ : St} (h : Ap (sp_114  σ) Q) : Ex sc CC 1 cd_114 Q 0 [some (.ref 3), none, none, none, none] [] σ := by
  have v : Ex sc CC 1 cd_114 Q 6 [some (.ref 3), some (.int 0), some (.int 0), some (.int 0), none] [] σ := hl_114_6 FU 0 0 0 σ h
  exact wpn_Ex (cuts := [6]) monCC (fun _ _ _ _ z => z) 8 0 _ _ _ v
-- TradeTestsModel.in
set_option maxHeartbeats 20000000 in
set_option maxRecDepth 100000 in
theorem hp_123 {sc : Nat × (Nat → Int32)} {Q : Int32 → St → Prop} {x1 x2 x3 : Int32} {σ : St} (h : Ap (sp_123 x1 x2 x3 σ) Q) : Ex sc CC 2 cd_123 Q 0 [some (.int x1), some (.int x2), some (.int x3)] [] σ := by
  have v : (x1 < x2 → ((0 : Int32) = 0 ∨ (0 : Int32) = 1) ∧ Q 0 σ) ∧ (¬ x1 < x2 → (x3 < x1 → ((0 : Int32) = 0 ∨ (0 : Int32) = 1) ∧ Q 0 σ) ∧ (¬ x3 < x1 → ((1 : Int32) = 0 ∨ (1 : Int32) = 1) ∧ Q 1 σ)) := n_if h (fun h => n_rb h) (fun h => n_if h (fun h => n_rb h) (fun h => n_rb h))
  exact wpn_Ex (cuts := []) monCC (fun _ _ _ _ z => z) 10 0 _ _ _ v
-- TradeTestsModel.finds
set_option maxHeartbeats 20000000 in
set_option maxRecDepth 100000 in
theorem hp_125 {sc : Nat × (Nat → Int32)} {Q : Int32 → St → Prop} {x1 : Int32} {σ : St} (h : Ap (sp_125 x1 σ) Q) : Ex sc CC 1 cd_125 Q 0 [some (.ref 12), some (.int x1)] [] σ := by
  have v : vp_in x1 6 ∧ (vp_in x1 6 ∧ (Q ((-1000000 : Int32) - x1) (up σ 80 (x1).toNatClampNeg ((σ 80 (x1).toNatClampNeg) + 1)))) := n_mb h (fun h => n_mb h (fun h => n_rt h))
  exact wpn_Ex (cuts := []) monCC (fun _ _ _ _ z => z) 13 0 _ _ _ v
-- TradeTestsModel.isUnder
set_option maxHeartbeats 20000000 in
set_option maxRecDepth 100000 in
theorem hp_128 {sc : Nat × (Nat → Int32)} {Q : Int32 → St → Prop} {x1 x2 : Int32} {σ : St} (h : Ap (sp_128 x1 x2 σ) Q) : Ex sc CC 2 cd_128 Q 0 [some (.int x1), some (.int x2)] [] σ := by
  have v : (x2 = 0 → ((1 : Int32) = 0 ∨ (1 : Int32) = 1) ∧ Q 1 σ) ∧ (¬ x2 = 0 → (x1 = x2 → ((1 : Int32) = 0 ∨ (1 : Int32) = 1) ∧ Q 1 σ) ∧ (¬ x1 = x2 → (¬ x2 = 1 → ((0 : Int32) = 0 ∨ (0 : Int32) = 1) ∧ Q 0 σ) ∧ (x2 = 1 → (¬ x1 = 2 → ((0 : Int32) = 0 ∨ (0 : Int32) = 1) ∧ Q 0 σ) ∧ (x1 = 2 → ((1 : Int32) = 0 ∨ (1 : Int32) = 1) ∧ Q 1 σ)))) := n_if h (fun h => n_rb h) (fun h => n_if h (fun h => n_rb h) (fun h => n_ne h (fun h => n_ne h (fun h => n_rb h) (fun h => n_rb h)) (fun h => n_rb h)))
  exact wpn_Ex (cuts := []) monCC (fun _ _ _ _ z => z) 15 0 _ _ _ v
-- TradeTestsModel.dueOf
set_option maxHeartbeats 20000000 in
set_option maxRecDepth 100000 in
theorem hp_129 {sc : Nat × (Nat → Int32)} {Q : Int32 → St → Prop} {x1 : Int32} {σ : St} (h : Ap (sp_129 x1 σ) Q) : Ex sc CC 1 cd_129 Q 0 [some (.ref 12), some (.int x1)] [] σ := by
  have v : vp_in x1 24 ∧ ((¬ (σ 50 (x1).toNatClampNeg) = 2 → vp_in x1 24 ∧ ((¬ (σ 50 (x1).toNatClampNeg) = 3 → Q 365 σ) ∧ ((σ 50 (x1).toNatClampNeg) = 3 → Q 730 σ))) ∧ ((σ 50 (x1).toNatClampNeg) = 2 → Q 182 σ)) := n_mb h (fun h => n_ne h (fun h => n_rt h) (fun h => n_mb h (fun h => n_ne h (fun h => n_rt h) (fun h => n_rt h))))
  exact wpn_Ex (cuts := []) monCC (fun _ _ _ _ z => z) 16 0 _ _ _ v
-- TradeTestsModel.placeOf
set_option maxHeartbeats 20000000 in
set_option maxRecDepth 100000 in
theorem hl_135_10 {sc : Nat × (Nat → Int32)} {Q : Int32 → St → Prop} : ∀ (n : Nat) (v1 : Int32) (v2 : Int32) (v3 : Int32) (v4 : Int32) (σ : St), Ap (lp_135_10 n v1 v2 v3 v4 σ) Q → Ex sc CC 1 cd_135 Q 10 [some (.ref 12), some (.int v1), some (.int v2), some (.int v3), some (.int v4)] [] σ := by
  intro n
  induction n with
  | zero => intro v1 v2 v3 v4 σ h; exact n_no h
  | succ n ih =>
    intro v1 v2 v3 v4 σ h
    have v : ((σ 12 3) ≤ v4 → Q v3 σ) ∧ (¬ (σ 12 3) ≤ v4 → vp_in v4 30 ∧ ((¬ (σ 56 (v4).toNatClampNeg) = v1 → Ex sc CC 1 cd_135 Q 10 [some (.ref 12), some (.int v1), some (.int v2), some (.int v3), some (.int (v4 + 1))] [] σ) ∧ ((σ 56 (v4).toNatClampNeg) = v1 → vp_in v4 30 ∧ ((v2 < (σ 58 (v4).toNatClampNeg) → Ex sc CC 1 cd_135 Q 10 [some (.ref 12), some (.int v1), some (.int v2), some (.int v3), some (.int (v4 + 1))] [] σ) ∧ (¬ v2 < (σ 58 (v4).toNatClampNeg) → vp_in v4 30 ∧ (Ex sc CC 1 cd_135 Q 10 [some (.ref 12), some (.int v1), some (.int v2), some (.int (σ 57 (v4).toNatClampNeg)), some (.int (v4 + 1))] [] σ)))))) := n_if h (fun h => n_rt h) (fun h => n_mb h (fun h => n_ne h (fun h => n_mb h (fun h => n_if h (fun h => ih v1 v2 v3 (v4 + 1) σ h) (fun h => n_mb h (fun h => ih v1 v2 (σ 57 (v4).toNatClampNeg) (v4 + 1) σ h)))) (fun h => ih v1 v2 v3 (v4 + 1) σ h)))
    exact stw_Ex (cuts := [10]) monCC 25 v
set_option maxHeartbeats 20000000 in
set_option maxRecDepth 100000 in
theorem hp_135 {sc : Nat × (Nat → Int32)} {Q : Int32 → St → Prop} {x1 x2 : Int32} {σ : St} (h : Ap (sp_135 x1 x2 σ) Q) : Ex sc CC 1 cd_135 Q 0 [some (.ref 12), some (.int x1), some (.int x2), none, none] [] σ := by
  have v : vp_in x1 8 ∧ (Ex sc CC 1 cd_135 Q 10 [some (.ref 12), some (.int x1), some (.int x2), some (.int (σ 55 (x1).toNatClampNeg)), some (.int 0)] [] σ) := n_mb h (fun h => hl_135_10 FU x1 x2 (σ 55 (x1).toNatClampNeg) 0 σ h)
  exact wpn_Ex (cuts := [10]) monCC (fun _ _ _ _ z => z) 9 0 _ _ _ v
-- TradeTestsModel.here
set_option maxHeartbeats 20000000 in
set_option maxRecDepth 100000 in
theorem hp_145 {sc : Nat × (Nat → Int32)} {Q : Int32 → St → Prop}  {σ : St} (h : Ap (sp_145  σ) Q) : Ex sc CC 1 cd_145 Q 0 [some (.ref 12)] [] σ := by
  have v : ((σ 12 9) ≤ (σ 12 45) → Q (-1) σ) ∧ (¬ (σ 12 9) ≤ (σ 12 45) → vp_in (σ 12 45) 60 ∧ (Q (σ 78 (σ 12 45).toNatClampNeg) σ)) := n_if h (fun h => n_rt h) (fun h => n_mb h (fun h => n_rt h))
  exact wpn_Ex (cuts := []) monCC (fun _ _ _ _ z => z) 13 0 _ _ _ v
-- TradeTestsModel.isDigit
set_option maxHeartbeats 20000000 in
set_option maxRecDepth 100000 in
theorem hp_148 {sc : Nat × (Nat → Int32)} {Q : Int32 → St → Prop} {x1 : Int32} {σ : St} (h : Ap (sp_148 x1 σ) Q) : Ex sc CC 2 cd_148 Q 0 [some (.int x1)] [] σ := by
  have v : (x1 < 48 → ((0 : Int32) = 0 ∨ (0 : Int32) = 1) ∧ Q 0 σ) ∧ (¬ x1 < 48 → (57 < x1 → ((0 : Int32) = 0 ∨ (0 : Int32) = 1) ∧ Q 0 σ) ∧ (¬ 57 < x1 → ((1 : Int32) = 0 ∨ (1 : Int32) = 1) ∧ Q 1 σ)) := n_if h (fun h => n_rb h) (fun h => n_if h (fun h => n_rb h) (fun h => n_rb h))
  exact wpn_Ex (cuts := []) monCC (fun _ _ _ _ z => z) 10 0 _ _ _ v
-- TradeTestsModel.textOn
set_option maxHeartbeats 20000000 in
set_option maxRecDepth 100000 in
theorem hl_150_4 {sc : Nat × (Nat → Int32)} {Q : Int32 → St → Prop} : ∀ (n : Nat) (v1 : Int32) (v2 : Int32) (v3 : Int32) (σ : St), Ap (lp_150_4 n v1 v2 v3 σ) Q → Ex sc CC 1 cd_150 Q 4 [some (.ref 12), some (.int v1), some (.int v2), some (.int v3)] [] σ := by
  intro n
  induction n with
  | zero => intro v1 v2 v3 σ h; exact n_no h
  | succ n ih =>
    intro v1 v2 v3 σ h
    have v : ((σ 12 5) ≤ v3 → Q v2 σ) ∧ (¬ (σ 12 5) ≤ v3 → vp_in v3 7 ∧ ((v1 < (σ 73 (v3).toNatClampNeg) → Ex sc CC 1 cd_150 Q 4 [some (.ref 12), some (.int v1), some (.int v2), some (.int (v3 + 1))] [] σ) ∧ (¬ v1 < (σ 73 (v3).toNatClampNeg) → Ex sc CC 1 cd_150 Q 4 [some (.ref 12), some (.int v1), some (.int v3), some (.int (v3 + 1))] [] σ))) := n_if h (fun h => n_rt h) (fun h => n_mb h (fun h => n_if h (fun h => ih v1 v2 (v3 + 1) σ h) (fun h => ih v1 v3 (v3 + 1) σ h)))
    exact stw_Ex (cuts := [4]) monCC 16 v
set_option maxHeartbeats 20000000 in
set_option maxRecDepth 100000 in
theorem hp_150 {sc : Nat × (Nat → Int32)} {Q : Int32 → St → Prop} {x1 : Int32} {σ : St} (h : Ap (sp_150 x1 σ) Q) : Ex sc CC 1 cd_150 Q 0 [some (.ref 12), some (.int x1), none, none] [] σ := by
  have v : Ex sc CC 1 cd_150 Q 4 [some (.ref 12), some (.int x1), some (.int (-1)), some (.int 0)] [] σ := hl_150_4 FU x1 (-1) 0 σ h
  exact wpn_Ex (cuts := [4]) monCC (fun _ _ _ _ z => z) 6 0 _ _ _ v
-- TradeTestsModel.cellOf
set_option maxHeartbeats 20000000 in
set_option maxRecDepth 100000 in
theorem hp_157 {sc : Nat × (Nat → Int32)} {Q : Int32 → St → Prop} {x1 : Int32} {σ : St} (h : Ap (sp_157 x1 σ) Q) : Ex sc CC 1 cd_157 Q 0 [some (.ref 12), some (.int x1), none] [] σ := by
  have v : vp_in x1 80 ∧ (vp_in x1 80 ∧ (vp_in (σ 59 (x1).toNatClampNeg) 24 ∧ (¬ (365 : Int32) = 0 ∧ ((3 ≤ (((σ 61 (x1).toNatClampNeg) - (σ 52 (σ 59 (x1).toNatClampNeg).toNatClampNeg)) / 365) → (6 ≤ (((σ 61 (x1).toNatClampNeg) - (σ 52 (σ 59 (x1).toNatClampNeg).toNatClampNeg)) / 365) → (10 ≤ (((σ 61 (x1).toNatClampNeg) - (σ 52 (σ 59 (x1).toNatClampNeg).toNatClampNeg)) / 365) → vp_in x1 80 ∧ (vp_in (σ 59 (x1).toNatClampNeg) 24 ∧ (Q (((4 : Int32) * 3) + (σ 51 (σ 59 (x1).toNatClampNeg).toNatClampNeg)) σ))) ∧ (¬ 10 ≤ (((σ 61 (x1).toNatClampNeg) - (σ 52 (σ 59 (x1).toNatClampNeg).toNatClampNeg)) / 365) → vp_in x1 80 ∧ (vp_in (σ 59 (x1).toNatClampNeg) 24 ∧ (Q (((4 : Int32) * 2) + (σ 51 (σ 59 (x1).toNatClampNeg).toNatClampNeg)) σ)))) ∧ (¬ 6 ≤ (((σ 61 (x1).toNatClampNeg) - (σ 52 (σ 59 (x1).toNatClampNeg).toNatClampNeg)) / 365) → vp_in x1 80 ∧ (vp_in (σ 59 (x1).toNatClampNeg) 24 ∧ (Q (((4 : Int32) * 1) + (σ 51 (σ 59 (x1).toNatClampNeg).toNatClampNeg)) σ)))) ∧ (¬ 3 ≤ (((σ 61 (x1).toNatClampNeg) - (σ 52 (σ 59 (x1).toNatClampNeg).toNatClampNeg)) / 365) → vp_in x1 80 ∧ (vp_in (σ 59 (x1).toNatClampNeg) 24 ∧ (Q (((4 : Int32) * 0) + (σ 51 (σ 59 (x1).toNatClampNeg).toNatClampNeg)) σ))))))) := n_mb h (fun h => n_mb h (fun h => n_mb h (fun h => n_mb h (fun h => n_if h (fun h => n_if h (fun h => n_if h (fun h => n_mb h (fun h => n_mb h (fun h => n_rt h))) (fun h => n_mb h (fun h => n_mb h (fun h => n_rt h)))) (fun h => n_mb h (fun h => n_mb h (fun h => n_rt h)))) (fun h => n_mb h (fun h => n_mb h (fun h => n_rt h)))))))
  exact wpn_Ex (cuts := []) monCC (fun _ _ _ _ z => z) 38 0 _ _ _ v
-- TradeTestsModel.ones
set_option maxHeartbeats 20000000 in
set_option maxRecDepth 100000 in
theorem hl_160_4 {sc : Nat × (Nat → Int32)} {Q : Int32 → St → Prop} : ∀ (n : Nat) (v0 : Int32) (v1 : Int32) (v2 : Int32) (σ : St), Ap (lp_160_4 n v0 v1 v2 σ) Q → Ex sc CC 1 cd_160 Q 4 [some (.int v0), some (.int v1), some (.int v2)] [] σ := by
  intro n
  induction n with
  | zero => intro v0 v1 v2 σ h; exact n_no h
  | succ n ih =>
    intro v0 v1 v2 σ h
    have v : (v2 = 0 → Q v1 σ) ∧ (¬ v2 = 0 → Ex sc CC 1 cd_160 Q 4 [some (.int v0), some (.int (v1 + 1)), some (.int (v2 &&& (v2 - 1)))] [] σ) := n_if h (fun h => n_rt h) (fun h => ih v0 (v1 + 1) (v2 &&& (v2 - 1)) σ h)
    exact stw_Ex (cuts := [4]) monCC 11 v
set_option maxHeartbeats 20000000 in
set_option maxRecDepth 100000 in
theorem hp_160 {sc : Nat × (Nat → Int32)} {Q : Int32 → St → Prop} {x1 : Int32} {σ : St} (h : Ap (sp_160 x1 σ) Q) : Ex sc CC 1 cd_160 Q 0 [some (.int x1), none, none] [] σ := by
  have v : Ex sc CC 1 cd_160 Q 4 [some (.int x1), some (.int 0), some (.int x1)] [] σ := hl_160_4 FU x1 0 x1 σ h
  exact wpn_Ex (cuts := [4]) monCC (fun _ _ _ _ z => z) 6 0 _ _ _ v
-- TradeTestsModel.isQuick
set_option maxHeartbeats 20000000 in
set_option maxRecDepth 100000 in
theorem hp_165 {sc : Nat × (Nat → Int32)} {Q : Int32 → St → Prop} {x1 : Int32} {σ : St} (h : Ap (sp_165 x1 σ) Q) : Ex sc CC 2 cd_165 Q 0 [some (.ref 12), some (.int x1), none] [] σ := by
  have v : vp_in x1 80 ∧ (vp_in (σ 59 (x1).toNatClampNeg) 24 ∧ (vp_in x1 80 ∧ ((¬ (σ 50 (σ 59 (x1).toNatClampNeg).toNatClampNeg) = 2 → (¬ (σ 50 (σ 59 (x1).toNatClampNeg).toNatClampNeg) = 3 → (20 ≤ (σ 63 (x1).toNatClampNeg) → ((0 : Int32) = 0 ∨ (0 : Int32) = 1) ∧ Q 0 σ) ∧ (¬ 20 ≤ (σ 63 (x1).toNatClampNeg) → ((1 : Int32) = 0 ∨ (1 : Int32) = 1) ∧ Q 1 σ)) ∧ ((σ 50 (σ 59 (x1).toNatClampNeg).toNatClampNeg) = 3 → (10 ≤ (σ 63 (x1).toNatClampNeg) → ((0 : Int32) = 0 ∨ (0 : Int32) = 1) ∧ Q 0 σ) ∧ (¬ 10 ≤ (σ 63 (x1).toNatClampNeg) → ((1 : Int32) = 0 ∨ (1 : Int32) = 1) ∧ Q 1 σ))) ∧ ((σ 50 (σ 59 (x1).toNatClampNeg).toNatClampNeg) = 2 → (30 ≤ (σ 63 (x1).toNatClampNeg) → ((0 : Int32) = 0 ∨ (0 : Int32) = 1) ∧ Q 0 σ) ∧ (¬ 30 ≤ (σ 63 (x1).toNatClampNeg) → ((1 : Int32) = 0 ∨ (1 : Int32) = 1) ∧ Q 1 σ))))) := n_mb h (fun h => n_mb h (fun h => n_mb h (fun h => n_ne h (fun h => n_if h (fun h => n_rb h) (fun h => n_rb h)) (fun h => n_ne h (fun h => n_if h (fun h => n_rb h) (fun h => n_rb h)) (fun h => n_if h (fun h => n_rb h) (fun h => n_rb h))))))
  exact wpn_Ex (cuts := []) monCC (fun _ _ _ _ z => z) 25 0 _ _ _ v
-- TradeTestsModel.overlaps
set_option maxHeartbeats 20000000 in
set_option maxRecDepth 100000 in
theorem hl_166_2 {sc : Nat × (Nat → Int32)} {Q : Int32 → St → Prop} : ∀ (n : Nat) (v1 : Int32) (v2 : Int32) (σ : St), Ap (lp_166_2 n v1 v2 σ) Q → Ex sc CC 2 cd_166 Q 2 [some (.ref 12), some (.int v1), some (.int v2)] [] σ := by
  intro n
  induction n with
  | zero => intro v1 v2 σ h; exact n_no h
  | succ n ih =>
    intro v1 v2 σ h
    have v : ((σ 12 4) ≤ v2 → ((0 : Int32) = 0 ∨ (0 : Int32) = 1) ∧ Q 0 σ) ∧ (¬ (σ 12 4) ≤ v2 → (v2 = v1 → Ex sc CC 2 cd_166 Q 2 [some (.ref 12), some (.int v1), some (.int (v2 + 1))] [] σ) ∧ (¬ v2 = v1 → vp_in v2 80 ∧ (vp_in v1 80 ∧ ((¬ (σ 60 (v2).toNatClampNeg) = (σ 60 (v1).toNatClampNeg) → Ex sc CC 2 cd_166 Q 2 [some (.ref 12), some (.int v1), some (.int (v2 + 1))] [] σ) ∧ ((σ 60 (v2).toNatClampNeg) = (σ 60 (v1).toNatClampNeg) → vp_in v2 80 ∧ (vp_in v1 80 ∧ ((¬ (σ 61 (v2).toNatClampNeg) = (σ 61 (v1).toNatClampNeg) → Ex sc CC 2 cd_166 Q 2 [some (.ref 12), some (.int v1), some (.int (v2 + 1))] [] σ) ∧ ((σ 61 (v2).toNatClampNeg) = (σ 61 (v1).toNatClampNeg) → vp_in v2 80 ∧ (vp_in v1 80 ∧ (vp_in v1 80 ∧ ((((σ 62 (v1).toNatClampNeg) + (σ 63 (v1).toNatClampNeg)) ≤ (σ 62 (v2).toNatClampNeg) → Ex sc CC 2 cd_166 Q 2 [some (.ref 12), some (.int v1), some (.int (v2 + 1))] [] σ) ∧ (¬ ((σ 62 (v1).toNatClampNeg) + (σ 63 (v1).toNatClampNeg)) ≤ (σ 62 (v2).toNatClampNeg) → vp_in v1 80 ∧ (vp_in v2 80 ∧ (vp_in v2 80 ∧ ((((σ 62 (v2).toNatClampNeg) + (σ 63 (v2).toNatClampNeg)) ≤ (σ 62 (v1).toNatClampNeg) → Ex sc CC 2 cd_166 Q 2 [some (.ref 12), some (.int v1), some (.int (v2 + 1))] [] σ) ∧ (¬ ((σ 62 (v2).toNatClampNeg) + (σ 63 (v2).toNatClampNeg)) ≤ (σ 62 (v1).toNatClampNeg) → ((1 : Int32) = 0 ∨ (1 : Int32) = 1) ∧ Q 1 σ)))))))))))))))) := n_if h (fun h => n_rb h) (fun h => n_if h (fun h => ih v1 (v2 + 1) σ h) (fun h => n_mb h (fun h => n_mb h (fun h => n_ne h (fun h => n_mb h (fun h => n_mb h (fun h => n_ne h (fun h => n_mb h (fun h => n_mb h (fun h => n_mb h (fun h => n_if h (fun h => ih v1 (v2 + 1) σ h) (fun h => n_mb h (fun h => n_mb h (fun h => n_mb h (fun h => n_if h (fun h => ih v1 (v2 + 1) σ h) (fun h => n_rb h))))))))) (fun h => ih v1 (v2 + 1) σ h)))) (fun h => ih v1 (v2 + 1) σ h)))))
    exact stw_Ex (cuts := [2]) monCC 56 v
set_option maxHeartbeats 20000000 in
set_option maxRecDepth 100000 in
theorem hp_166 {sc : Nat × (Nat → Int32)} {Q : Int32 → St → Prop} {x1 : Int32} {σ : St} (h : Ap (sp_166 x1 σ) Q) : Ex sc CC 2 cd_166 Q 0 [some (.ref 12), some (.int x1), none] [] σ := by
  have v : Ex sc CC 2 cd_166 Q 2 [some (.ref 12), some (.int x1), some (.int 0)] [] σ := hl_166_2 FU x1 0 σ h
  exact wpn_Ex (cuts := [2]) monCC (fun _ _ _ _ z => z) 4 0 _ _ _ v
