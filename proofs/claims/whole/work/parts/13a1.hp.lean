/-! the code does what the functions say (written by wip/whole/gen/spec.py) -/
-- TradeTests.isHow
set_option maxHeartbeats 20000000 in
set_option maxRecDepth 100000 in
theorem ve_20 {sc : Nat × (Nat → Int32)} {C : CT} (hC : MonC C) {Q : Int32 → St → Prop} (x1 x2 : Int32) (σ : St) (v : (x2 < 0 → ((0 : Int32) = 0 ∨ (0 : Int32) = 1) ∧ Q 0 σ) ∧ (¬ x2 < 0 → ¬ (1000 : Int32) = 0 ∧ (((x2 - x2 / 1000 * 1000) < 512 → ¬ (1000 : Int32) = 0 ∧ (((x2 / 1000) < 1 → ((0 : Int32) = 0 ∨ (0 : Int32) = 1) ∧ Q 0 σ) ∧ (¬ (x2 / 1000) < 1 → (240 < (x2 / 1000) → ((0 : Int32) = 0 ∨ (0 : Int32) = 1) ∧ Q 0 σ) ∧ (¬ 240 < (x2 / 1000) → ¬ (10000 : Int32) = 0 ∧ ((1440 < ((x1 / 10000) + (x2 / 1000)) → ((0 : Int32) = 0 ∨ (0 : Int32) = 1) ∧ Q 0 σ) ∧ (¬ 1440 < ((x1 / 10000) + (x2 / 1000)) → ((1 : Int32) = 0 ∨ (1 : Int32) = 1) ∧ Q 1 σ)))))) ∧ (¬ (x2 - x2 / 1000 * 1000) < 512 → ((0 : Int32) = 0 ∨ (0 : Int32) = 1) ∧ Q 0 σ)))) : Ex sc C 2 cd_20 Q 0 [some (.int x1), some (.int x2), none] [] σ := wpn_Ex (cuts := []) hC (fun _ _ _ _ z => z) 28 0 _ _ _ v
set_option maxHeartbeats 20000000 in
set_option maxRecDepth 100000 in
theorem hp_20 {sc : Nat × (Nat → Int32)} {Q : Int32 → St → Prop} {x1 x2 : Int32} {σ : St} (h : Ap (sp_20 x1 x2 σ) Q) : Ex sc CC 2 cd_20 Q 0 [some (.int x1), some (.int x2), none] [] σ := by
  exact ve_20 monCC x1 x2 σ (n_if h (fun h => n_rb h) (fun h => n_mb h (fun h => n_if h (fun h => n_mb h (fun h => n_if h (fun h => n_rb h) (fun h => n_if h (fun h => n_rb h) (fun h => n_mb h (fun h => n_if h (fun h => n_rb h) (fun h => n_rb h)))))) (fun h => n_rb h))))
-- TradeTests$Tests.add
set_option maxHeartbeats 20000000 in
set_option maxRecDepth 100000 in
theorem ve_22 {sc : Nat × (Nat → Int32)} {C : CT} (hC : MonC C) {Q : Int32 → St → Prop} (x1 x2 x3 x4 x5 : Int32) (σ : St) (v : ¬ (100 : Int32) = 0 ∧ (vp_in (σ 3 14) 80 ∧ (¬ (100 : Int32) = 0 ∧ (vp_in (σ 3 14) 80 ∧ (¬ (10000 : Int32) = 0 ∧ (vp_in (σ 3 14) 80 ∧ (¬ (10000 : Int32) = 0 ∧ (vp_in (σ 3 14) 80 ∧ (¬ (1000 : Int32) = 0 ∧ (vp_in (σ 3 14) 80 ∧ (vp_in (σ 3 14) 80 ∧ (¬ (1000 : Int32) = 0 ∧ (vp_in (σ 3 14) 80 ∧ (¬ (1000 : Int32) = 0 ∧ (vp_in (σ 3 14) 80 ∧ (¬ (1000 : Int32) = 0 ∧ (¬ (256 : Int32) = 0 ∧ (vp_in (σ 3 14) 80 ∧ (¬ (1000 : Int32) = 0 ∧ (¬ (256 : Int32) = 0 ∧ (vp_in (σ 3 14) 80 ∧ (Q (((σ 3 14) + 1) - 1) (up (up (up (up (up (up (up (up (up (up (up σ 24 (σ 3 14).toNatClampNeg (x1 / 100)) 25 (σ 3 14).toNatClampNeg (x1 - x1 / 100 * 100)) 26 (σ 3 14).toNatClampNeg (x2 - x2 / 10000 * 10000)) 27 (σ 3 14).toNatClampNeg (x2 / 10000)) 28 (σ 3 14).toNatClampNeg (x3 / 1000)) 29 (σ 3 14).toNatClampNeg x4) 30 (σ 3 14).toNatClampNeg (x5 / 1000)) 31 (σ 3 14).toNatClampNeg (x5 - x5 / 1000 * 1000)) 32 (σ 3 14).toNatClampNeg ((x3 - x3 / 1000 * 1000) - (x3 - x3 / 1000 * 1000) / 256 * 256)) 33 (σ 3 14).toNatClampNeg ((x3 - x3 / 1000 * 1000) / 256)) 3 14 ((σ 3 14) + 1)))))))))))))))))))))))) : Ex sc C 1 cd_22 Q 0 [some (.ref 3), some (.int x1), some (.int x2), some (.int x3), some (.int x4), some (.int x5)] [] σ := wpn_Ex (cuts := []) hC (fun _ _ _ _ z => z) 94 0 _ _ _ v
set_option maxHeartbeats 20000000 in
set_option maxRecDepth 100000 in
theorem hp_22 {sc : Nat × (Nat → Int32)} {Q : Int32 → St → Prop} {x1 x2 x3 x4 x5 : Int32} {σ : St} (h : Ap (sp_22 x1 x2 x3 x4 x5 σ) Q) : Ex sc CC 1 cd_22 Q 0 [some (.ref 3), some (.int x1), some (.int x2), some (.int x3), some (.int x4), some (.int x5)] [] σ := by
  exact ve_22 monCC x1 x2 x3 x4 x5 σ (n_mb h (fun h => n_mb h (fun h => n_mb h (fun h => n_mb h (fun h => n_mb h (fun h => n_mb h (fun h => n_mb h (fun h => n_mb h (fun h => n_mb h (fun h => n_mb h (fun h => n_mb h (fun h => n_mb h (fun h => n_mb h (fun h => n_mb h (fun h => n_mb h (fun h => n_mb h (fun h => n_mb h (fun h => n_mb h (fun h => n_mb h (fun h => n_mb h (fun h => n_mb h (fun h => n_rt h))))))))))))))))))))))
-- TradeTests$Tests.detail
set_option maxHeartbeats 20000000 in
set_option maxRecDepth 100000 in
theorem ve_25 {sc : Nat × (Nat → Int32)} {C : CT} (hC : MonC C) {Q : Int32 → St → Prop} (x1 x2 : Int32) (σ : St) (v : (x2 = 0 → vp_in x1 80 ∧ (Q (σ 24 (x1).toNatClampNeg) σ)) ∧ (¬ x2 = 0 → (x2 = 1 → vp_in x1 80 ∧ (Q (σ 25 (x1).toNatClampNeg) σ)) ∧ (¬ x2 = 1 → (x2 = 2 → vp_in x1 80 ∧ (Q (σ 26 (x1).toNatClampNeg) σ)) ∧ (¬ x2 = 2 → (x2 = 3 → vp_in x1 80 ∧ (Q (σ 27 (x1).toNatClampNeg) σ)) ∧ (¬ x2 = 3 → (x2 = 4 → vp_in x1 80 ∧ (Q (σ 28 (x1).toNatClampNeg) σ)) ∧ (¬ x2 = 4 → (x2 = 5 → vp_in x1 80 ∧ (Q (σ 29 (x1).toNatClampNeg) σ)) ∧ (¬ x2 = 5 → (x2 = 6 → vp_in x1 80 ∧ (Q (σ 30 (x1).toNatClampNeg) σ)) ∧ (¬ x2 = 6 → (x2 = 7 → vp_in x1 80 ∧ (Q (σ 31 (x1).toNatClampNeg) σ)) ∧ (¬ x2 = 7 → (x2 = 8 → vp_in x1 80 ∧ (Q (σ 32 (x1).toNatClampNeg) σ)) ∧ (¬ x2 = 8 → vp_in x1 80 ∧ (Q (σ 33 (x1).toNatClampNeg) σ))))))))))) : Ex sc C 1 cd_25 Q 0 [some (.ref 3), some (.int x1), some (.int x2)] [] σ := wpn_Ex (cuts := []) hC (fun _ _ _ _ z => z) 8 0 _ _ _ v
set_option maxHeartbeats 20000000 in
set_option maxRecDepth 100000 in
theorem hp_25 {sc : Nat × (Nat → Int32)} {Q : Int32 → St → Prop} {x1 x2 : Int32} {σ : St} (h : Ap (sp_25 x1 x2 σ) Q) : Ex sc CC 1 cd_25 Q 0 [some (.ref 3), some (.int x1), some (.int x2)] [] σ := by
  exact ve_25 monCC x1 x2 σ (n_if h (fun h => n_mb h (fun h => n_rt h)) (fun h => n_if h (fun h => n_mb h (fun h => n_rt h)) (fun h => n_if h (fun h => n_mb h (fun h => n_rt h)) (fun h => n_if h (fun h => n_mb h (fun h => n_rt h)) (fun h => n_if h (fun h => n_mb h (fun h => n_rt h)) (fun h => n_if h (fun h => n_mb h (fun h => n_rt h)) (fun h => n_if h (fun h => n_mb h (fun h => n_rt h)) (fun h => n_if h (fun h => n_mb h (fun h => n_rt h)) (fun h => n_if h (fun h => n_mb h (fun h => n_rt h)) (fun h => n_mb h (fun h => n_rt h)))))))))))
-- TradeTests$Texts.addByte
set_option maxHeartbeats 20000000 in
set_option maxRecDepth 100000 in
theorem ve_27 {sc : Nat × (Nat → Int32)} {C : CT} (hC : MonC C) {Q : Int32 → St → Prop} (x1 : Int32) (σ : St) (v : vp_in (σ 4 1) 60 ∧ (Q ((σ 4 1) + 1) (up (up σ 38 (σ 4 1).toNatClampNeg x1) 4 1 ((σ 4 1) + 1)))) : Ex sc C 1 cd_27 Q 0 [some (.ref 4), some (.int x1)] [] σ := wpn_Ex (cuts := []) hC (fun _ _ _ _ z => z) 16 0 _ _ _ v
set_option maxHeartbeats 20000000 in
set_option maxRecDepth 100000 in
theorem hp_27 {sc : Nat × (Nat → Int32)} {Q : Int32 → St → Prop} {x1 : Int32} {σ : St} (h : Ap (sp_27 x1 σ) Q) : Ex sc CC 1 cd_27 Q 0 [some (.ref 4), some (.int x1)] [] σ := by
  exact ve_27 monCC x1 σ (n_mb h (fun h => n_rt h))
-- TradeTests$Texts.clearNext
set_option maxHeartbeats 20000000 in
set_option maxRecDepth 100000 in
set_option maxHeartbeats 20000000 in
set_option maxRecDepth 100000 in
theorem vh_30_23 {sc : Nat × (Nat → Int32)} {C : CT} (hC : MonC C) {Q : Int32 → St → Prop} (v1 : Int32) (σ : St) (v : (4 ≤ v1 → Q 0 σ) ∧ (¬ 4 ≤ v1 → vp_in (((σ 4 7) * 4) + v1) 24 ∧ (Ex sc C 0 cd_30 Q 23 [some (.ref 4), some (.int (v1 + 1))] [] (up σ 42 (((σ 4 7) * 4) + v1).toNatClampNeg 0)))) : Ex sc C 0 cd_30 Q 23 [some (.ref 4), some (.int v1)] [] σ := stw_Ex (cuts := [23]) hC 16 v
theorem hl_30_23 {sc : Nat × (Nat → Int32)} {Q : Int32 → St → Prop} : ∀ (n : Nat) (v1 : Int32) (σ : St), Ap (lp_30_23 n v1 σ) Q → Ex sc CC 0 cd_30 Q 23 [some (.ref 4), some (.int v1)] [] σ := by
  intro n
  induction n with
  | zero => intro v1 σ h; exact n_no h
  | succ n ih =>
    intro v1 σ h
    exact vh_30_23 monCC v1 σ (n_if h (fun h => n_rt h) (fun h => n_mb h (fun h => ih (v1 + 1) (up σ 42 (((σ 4 7) * 4) + v1).toNatClampNeg 0) h)))
set_option maxHeartbeats 20000000 in
set_option maxRecDepth 100000 in
theorem ve_30 {sc : Nat × (Nat → Int32)} {C : CT} (hC : MonC C) {Q : Int32 → St → Prop}  (σ : St) (v : vp_in (σ 4 7) 6 ∧ (vp_in (σ 4 7) 6 ∧ (Ex sc C 0 cd_30 Q 23 [some (.ref 4), some (.int 0)] [] (up (up σ 40 (σ 4 7).toNatClampNeg 0) 41 (σ 4 7).toNatClampNeg 100)))) : Ex sc C 0 cd_30 Q 0 [some (.ref 4), none] [] σ := wpn_Ex (cuts := [23]) hC (fun _ _ _ _ z => z) 16 0 _ _ _ v
set_option maxHeartbeats 20000000 in
set_option maxRecDepth 100000 in
theorem hp_30 {sc : Nat × (Nat → Int32)} {Q : Int32 → St → Prop}  {σ : St} (h : Ap (sp_30  σ) Q) : Ex sc CC 0 cd_30 Q 0 [some (.ref 4), none] [] σ := by
  exact ve_30 monCC  σ (n_mb h (fun h => n_mb h (fun h => hl_30_23 FU 0 (up (up σ 40 (σ 4 7).toNatClampNeg 0) 41 (σ 4 7).toNatClampNeg 100) h)))
-- TradeTests$Texts.next
set_option maxHeartbeats 20000000 in
set_option maxRecDepth 100000 in
theorem ve_33 {sc : Nat × (Nat → Int32)} {C : CT} (hC : MonC C) {Q : Int32 → St → Prop}  (σ : St) (v : ((σ 4 1) ≤ (σ 4 2) → Q (-1) σ) ∧ (¬ (σ 4 1) ≤ (σ 4 2) → vp_in (σ 4 2) 60 ∧ (Q (σ 38 (σ 4 2).toNatClampNeg) σ))) : Ex sc C 1 cd_33 Q 0 [some (.ref 4)] [] σ := wpn_Ex (cuts := []) hC (fun _ _ _ _ z => z) 13 0 _ _ _ v
set_option maxHeartbeats 20000000 in
set_option maxRecDepth 100000 in
theorem hp_33 {sc : Nat × (Nat → Int32)} {Q : Int32 → St → Prop}  {σ : St} (h : Ap (sp_33  σ) Q) : Ex sc CC 1 cd_33 Q 0 [some (.ref 4)] [] σ := by
  exact ve_33 monCC  σ (n_if h (fun h => n_rt h) (fun h => n_mb h (fun h => n_rt h)))
-- TradeTests$Texts.isDigit
set_option maxHeartbeats 20000000 in
set_option maxRecDepth 100000 in
theorem ve_35 {sc : Nat × (Nat → Int32)} {C : CT} (hC : MonC C) {Q : Int32 → St → Prop} (x1 x2 : Int32) (σ : St) (v : (x1 < 48 → ((0 : Int32) = 0 ∨ (0 : Int32) = 1) ∧ Q 0 σ) ∧ (¬ x1 < 48 → (x2 < x1 → ((0 : Int32) = 0 ∨ (0 : Int32) = 1) ∧ Q 0 σ) ∧ (¬ x2 < x1 → ((1 : Int32) = 0 ∨ (1 : Int32) = 1) ∧ Q 1 σ))) : Ex sc C 2 cd_35 Q 0 [some (.int x1), some (.int x2)] [] σ := wpn_Ex (cuts := []) hC (fun _ _ _ _ z => z) 10 0 _ _ _ v
set_option maxHeartbeats 20000000 in
set_option maxRecDepth 100000 in
theorem hp_35 {sc : Nat × (Nat → Int32)} {Q : Int32 → St → Prop} {x1 x2 : Int32} {σ : St} (h : Ap (sp_35 x1 x2 σ) Q) : Ex sc CC 2 cd_35 Q 0 [some (.int x1), some (.int x2)] [] σ := by
  exact ve_35 monCC x1 x2 σ (n_if h (fun h => n_rb h) (fun h => n_if h (fun h => n_rb h) (fun h => n_rb h)))
-- TradeTests$Texts.kindOf
set_option maxHeartbeats 20000000 in
set_option maxRecDepth 100000 in
theorem ve_36 {sc : Nat × (Nat → Int32)} {C : CT} (hC : MonC C) {Q : Int32 → St → Prop} (x1 : Int32) (σ : St) (v : (x1 = 99 → Q 1 σ) ∧ (¬ x1 = 99 → (x1 = 114 → Q 3 σ) ∧ (¬ x1 = 114 → (x1 = 116 → Q 2 σ) ∧ (¬ x1 = 116 → (x1 = 118 → Q 0 σ) ∧ (¬ x1 = 118 → Q (-1) σ))))) : Ex sc C 1 cd_36 Q 0 [some (.int x1)] [] σ := wpn_Ex (cuts := []) hC (fun _ _ _ _ z => z) 5 0 _ _ _ v
set_option maxHeartbeats 20000000 in
set_option maxRecDepth 100000 in
theorem hp_36 {sc : Nat × (Nat → Int32)} {Q : Int32 → St → Prop} {x1 : Int32} {σ : St} (h : Ap (sp_36 x1 σ) Q) : Ex sc CC 1 cd_36 Q 0 [some (.int x1)] [] σ := by
  exact ve_36 monCC x1 σ (n_if h (fun h => n_rt h) (fun h => n_if h (fun h => n_rt h) (fun h => n_if h (fun h => n_rt h) (fun h => n_if h (fun h => n_rt h) (fun h => n_rt h)))))
-- TradeTests$Texts.inForce
set_option maxHeartbeats 20000000 in
set_option maxRecDepth 100000 in
set_option maxHeartbeats 20000000 in
set_option maxRecDepth 100000 in
theorem vh_40_7 {sc : Nat × (Nat → Int32)} {C : CT} (hC : MonC C) {Q : Int32 → St → Prop} (v1 : Int32) (v2 : Int32) (σ : St) (v : (v2 < 0 → Q (-1) σ) ∧ (¬ v2 < 0 → vp_in v2 6 ∧ ((v1 < (σ 39 (v2).toNatClampNeg) → Ex sc C 1 cd_40 Q 7 [some (.ref 4), some (.int v1), some (.int (v2 + (-1)))] [] σ) ∧ (¬ v1 < (σ 39 (v2).toNatClampNeg) → Q v2 σ)))) : Ex sc C 1 cd_40 Q 7 [some (.ref 4), some (.int v1), some (.int v2)] [] σ := stw_Ex (cuts := [7]) hC 11 v
theorem hl_40_7 {sc : Nat × (Nat → Int32)} {Q : Int32 → St → Prop} : ∀ (n : Nat) (v1 : Int32) (v2 : Int32) (σ : St), Ap (lp_40_7 n v1 v2 σ) Q → Ex sc CC 1 cd_40 Q 7 [some (.ref 4), some (.int v1), some (.int v2)] [] σ := by
  intro n
  induction n with
  | zero => intro v1 v2 σ h; exact n_no h
  | succ n ih =>
    intro v1 v2 σ h
    exact vh_40_7 monCC v1 v2 σ (n_if h (fun h => n_rt h) (fun h => n_mb h (fun h => n_if h (fun h => ih v1 (v2 + (-1)) σ h) (fun h => n_rt h))))
set_option maxHeartbeats 20000000 in
set_option maxRecDepth 100000 in
theorem ve_40 {sc : Nat × (Nat → Int32)} {C : CT} (hC : MonC C) {Q : Int32 → St → Prop} (x1 : Int32) (σ : St) (v : Ex sc C 1 cd_40 Q 7 [some (.ref 4), some (.int x1), some (.int ((σ 4 7) - 1))] [] σ) : Ex sc C 1 cd_40 Q 0 [some (.ref 4), some (.int x1), none] [] σ := wpn_Ex (cuts := [7]) hC (fun _ _ _ _ z => z) 7 0 _ _ _ v
set_option maxHeartbeats 20000000 in
set_option maxRecDepth 100000 in
theorem hp_40 {sc : Nat × (Nat → Int32)} {Q : Int32 → St → Prop} {x1 : Int32} {σ : St} (h : Ap (sp_40 x1 σ) Q) : Ex sc CC 1 cd_40 Q 0 [some (.ref 4), some (.int x1), none] [] σ := by
  exact ve_40 monCC x1 σ (hl_40_7 FU x1 ((σ 4 7) - 1) σ h)
-- TradeTests$Texts.failing
set_option maxHeartbeats 20000000 in
set_option maxRecDepth 100000 in
theorem ve_41 {sc : Nat × (Nat → Int32)} {C : CT} (hC : MonC C) {Q : Int32 → St → Prop} (x1 x2 : Int32) (σ : St) (v : vp_in ((x1 * 4) + x2) 24 ∧ (Q (σ 42 ((x1 * 4) + x2).toNatClampNeg) σ)) : Ex sc C 1 cd_41 Q 0 [some (.ref 4), some (.int x1), some (.int x2)] [] σ := wpn_Ex (cuts := []) hC (fun _ _ _ _ z => z) 10 0 _ _ _ v
set_option maxHeartbeats 20000000 in
set_option maxRecDepth 100000 in
theorem hp_41 {sc : Nat × (Nat → Int32)} {Q : Int32 → St → Prop} {x1 x2 : Int32} {σ : St} (h : Ap (sp_41 x1 x2 σ) Q) : Ex sc CC 1 cd_41 Q 0 [some (.ref 4), some (.int x1), some (.int x2)] [] σ := by
  exact ve_41 monCC x1 x2 σ (n_mb h (fun h => n_rt h))
