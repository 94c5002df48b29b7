/-! the code does what the functions say (written by wip/whole/gen/spec.py) -/
-- TradeTests$Odometer.milesAhead
set_option maxHeartbeats 20000000 in
set_option maxRecDepth 100000 in
set_option maxHeartbeats 20000000 in
set_option maxRecDepth 100000 in
theorem vh_77_4 {sc : Nat × (Nat → Int32)} {C : CT} (hC : MonC C) {Q : Int32 → St → Prop} (v1 : Int32) (v2 : Int32) (σ : St) (v : (v2 < 0 → Q 0 σ) ∧ (¬ v2 < 0 → vp_in v2 80 ∧ (vp_in v1 80 ∧ ((¬ (σ 24 (v2).toNatClampNeg) = (σ 24 (v1).toNatClampNeg) → Ex sc C 1 cd_77 Q 4 [some (.ref 8), some (.int v1), some (.int (v2 + (-1)))] [] σ) ∧ ((σ 24 (v2).toNatClampNeg) = (σ 24 (v1).toNatClampNeg) → vp_in v2 80 ∧ (Q (σ 29 (v2).toNatClampNeg) σ)))))) : Ex sc C 1 cd_77 Q 4 [some (.ref 8), some (.int v1), some (.int v2)] [] σ := stw_Ex (cuts := [4]) hC 19 v
theorem hl_77_4 {sc : Nat × (Nat → Int32)} {Q : Int32 → St → Prop} : ∀ (n : Nat) (v1 : Int32) (v2 : Int32) (σ : St), Ap (lp_77_4 n v1 v2 σ) Q → Ex sc CC 1 cd_77 Q 4 [some (.ref 8), some (.int v1), some (.int v2)] [] σ := by
  intro n
  induction n with
  | zero => intro v1 v2 σ h; exact n_no h
  | succ n ih =>
    intro v1 v2 σ h
    exact vh_77_4 monCC v1 v2 σ (n_if h (fun h => n_rt h) (fun h => n_mb h (fun h => n_mb h (fun h => n_ne h (fun h => n_mb h (fun h => n_rt h)) (fun h => ih v1 (v2 + (-1)) σ h)))))
set_option maxHeartbeats 20000000 in
set_option maxRecDepth 100000 in
theorem ve_77 {sc : Nat × (Nat → Int32)} {C : CT} (hC : MonC C) {Q : Int32 → St → Prop} (x1 : Int32) (σ : St) (v : Ex sc C 1 cd_77 Q 4 [some (.ref 8), some (.int x1), some (.int (x1 - 1))] [] σ) : Ex sc C 1 cd_77 Q 0 [some (.ref 8), some (.int x1), none] [] σ := wpn_Ex (cuts := [4]) hC (fun _ _ _ _ z => z) 6 0 _ _ _ v
set_option maxHeartbeats 20000000 in
set_option maxRecDepth 100000 in
theorem hp_77 {sc : Nat × (Nat → Int32)} {Q : Int32 → St → Prop} {x1 : Int32} {σ : St} (h : Ap (sp_77 x1 σ) Q) : Ex sc CC 1 cd_77 Q 0 [some (.ref 8), some (.int x1), none] [] σ := by
  exact ve_77 monCC x1 σ (hl_77_4 FU x1 (x1 - 1) σ h)
-- TradeTests$Odometer.milesBehind
set_option maxHeartbeats 20000000 in
set_option maxRecDepth 100000 in
set_option maxHeartbeats 20000000 in
set_option maxRecDepth 100000 in
theorem vh_78_4 {sc : Nat × (Nat → Int32)} {C : CT} (hC : MonC C) {Q : Int32 → St → Prop} (v1 : Int32) (v2 : Int32) (σ : St) (v : ((σ 3 14) ≤ v2 → Q 999999 σ) ∧ (¬ (σ 3 14) ≤ v2 → vp_in v2 80 ∧ (vp_in v1 80 ∧ ((¬ (σ 24 (v2).toNatClampNeg) = (σ 24 (v1).toNatClampNeg) → Ex sc C 1 cd_78 Q 4 [some (.ref 8), some (.int v1), some (.int (v2 + 1))] [] σ) ∧ ((σ 24 (v2).toNatClampNeg) = (σ 24 (v1).toNatClampNeg) → vp_in v2 80 ∧ (Q (σ 29 (v2).toNatClampNeg) σ)))))) : Ex sc C 1 cd_78 Q 4 [some (.ref 8), some (.int v1), some (.int v2)] [] σ := stw_Ex (cuts := [4]) hC 22 v
theorem hl_78_4 {sc : Nat × (Nat → Int32)} {Q : Int32 → St → Prop} : ∀ (n : Nat) (v1 : Int32) (v2 : Int32) (σ : St), Ap (lp_78_4 n v1 v2 σ) Q → Ex sc CC 1 cd_78 Q 4 [some (.ref 8), some (.int v1), some (.int v2)] [] σ := by
  intro n
  induction n with
  | zero => intro v1 v2 σ h; exact n_no h
  | succ n ih =>
    intro v1 v2 σ h
    exact vh_78_4 monCC v1 v2 σ (n_if h (fun h => n_rt h) (fun h => n_mb h (fun h => n_mb h (fun h => n_ne h (fun h => n_mb h (fun h => n_rt h)) (fun h => ih v1 (v2 + 1) σ h)))))
set_option maxHeartbeats 20000000 in
set_option maxRecDepth 100000 in
theorem ve_78 {sc : Nat × (Nat → Int32)} {C : CT} (hC : MonC C) {Q : Int32 → St → Prop} (x1 : Int32) (σ : St) (v : Ex sc C 1 cd_78 Q 4 [some (.ref 8), some (.int x1), some (.int (x1 + 1))] [] σ) : Ex sc C 1 cd_78 Q 0 [some (.ref 8), some (.int x1), none] [] σ := wpn_Ex (cuts := [4]) hC (fun _ _ _ _ z => z) 6 0 _ _ _ v
set_option maxHeartbeats 20000000 in
set_option maxRecDepth 100000 in
theorem hp_78 {sc : Nat × (Nat → Int32)} {Q : Int32 → St → Prop} {x1 : Int32} {σ : St} (h : Ap (sp_78 x1 σ) Q) : Ex sc CC 1 cd_78 Q 0 [some (.ref 8), some (.int x1), none] [] σ := by
  exact ve_78 monCC x1 σ (hl_78_4 FU x1 (x1 + 1) σ h)
-- TradeTests$Odometer.isTyped
set_option maxHeartbeats 20000000 in
set_option maxRecDepth 100000 in
set_option maxHeartbeats 20000000 in
set_option maxRecDepth 100000 in
theorem vh_79_31 {sc : Nat × (Nat → Int32)} {C : CT} (hC : MonC C) {Q : Int32 → St → Prop} (v0 : Int32) (v1 : Int32) (v2 : Int32) (v3 : Int32) (v4 : Int32) (v5 : Int32) (σ : St) (v : (10 ≤ v5 → Ex sc C 2 cd_79 Q 2 [some (.int v0), some (.int v1), some (.int v2), some (.int (v3 * 10)), some (.int v4), some (.int v5)] [] σ) ∧ (¬ 10 ≤ v5 → ((v4 + v3) < v1 → Ex sc C 2 cd_79 Q 31 [some (.int v0), some (.int v1), some (.int v2), some (.int v3), some (.int (v4 + v3)), some (.int (v5 + 1))] [] σ) ∧ (¬ (v4 + v3) < v1 → (v2 < (v4 + v3) → Ex sc C 2 cd_79 Q 31 [some (.int v0), some (.int v1), some (.int v2), some (.int v3), some (.int (v4 + v3)), some (.int (v5 + 1))] [] σ) ∧ (¬ v2 < (v4 + v3) → ((1 : Int32) = 0 ∨ (1 : Int32) = 1) ∧ Q 1 σ)))) : Ex sc C 2 cd_79 Q 31 [some (.int v0), some (.int v1), some (.int v2), some (.int v3), some (.int v4), some (.int v5)] [] σ := stw_Ex (cuts := [2, 31]) hC 16 v
theorem hl_79_31 {sc : Nat × (Nat → Int32)} {Q : Int32 → St → Prop} (ko : Int32 → Int32 → Int32 → Int32 → St → MR) (hko : ∀ (v0 : Int32) (v1 : Int32) (v2 : Int32) (v3 : Int32) (σ : St), Ap (ko v0 v1 v2 v3 σ) Q → Ex sc CC 2 cd_79 Q 2 [some (.int v0), some (.int v1), some (.int v2), some (.int v3), none, none] [] σ) : ∀ (n : Nat) (v0 : Int32) (v1 : Int32) (v2 : Int32) (v3 : Int32) (v4 : Int32) (v5 : Int32) (σ : St), Ap (lp_79_31 ko n v0 v1 v2 v3 v4 v5 σ) Q → Ex sc CC 2 cd_79 Q 31 [some (.int v0), some (.int v1), some (.int v2), some (.int v3), some (.int v4), some (.int v5)] [] σ := by
  intro n
  induction n with
  | zero => intro v0 v1 v2 v3 v4 v5 σ h; exact n_no h
  | succ n ih =>
    intro v0 v1 v2 v3 v4 v5 σ h
    exact vh_79_31 monCC v0 v1 v2 v3 v4 v5 σ (n_if h (fun h => Ex_fg [true, true, true, true, false, false] (hko v0 v1 v2 (v3 * 10) σ h)) (fun h => n_if h (fun h => ih v0 v1 v2 v3 (v4 + v3) (v5 + 1) σ h) (fun h => n_if h (fun h => ih v0 v1 v2 v3 (v4 + v3) (v5 + 1) σ h) (fun h => n_rb h))))
set_option maxHeartbeats 20000000 in
set_option maxRecDepth 100000 in
set_option maxHeartbeats 20000000 in
set_option maxRecDepth 100000 in
theorem vh_79_2 {sc : Nat × (Nat → Int32)} {C : CT} (hC : MonC C) {Q : Int32 → St → Prop} (v0 : Int32) (v1 : Int32) (v2 : Int32) (v3 : Int32) (σ : St) (v : (1000000 ≤ v3 → ((0 : Int32) = 0 ∨ (0 : Int32) = 1) ∧ Q 0 σ) ∧ (¬ 1000000 ≤ v3 → (v3 = 1 → ¬ v3 = 0 ∧ (¬ (10 : Int32) = 0 ∧ (Ex sc C 2 cd_79 Q 31 [some (.int v0), some (.int v1), some (.int v2), some (.int v3), some (.int v0), some (.int (((v0 / v3) - (v0 / v3) / 10 * 10) + 1))] [] σ))) ∧ (¬ v3 = 1 → (v0 < v3 → ((0 : Int32) = 0 ∨ (0 : Int32) = 1) ∧ Q 0 σ) ∧ (¬ v0 < v3 → ¬ v3 = 0 ∧ (¬ (10 : Int32) = 0 ∧ (Ex sc C 2 cd_79 Q 31 [some (.int v0), some (.int v1), some (.int v2), some (.int v3), some (.int v0), some (.int (((v0 / v3) - (v0 / v3) / 10 * 10) + 1))] [] σ)))))) : Ex sc C 2 cd_79 Q 2 [some (.int v0), some (.int v1), some (.int v2), some (.int v3), none, none] [] σ := stw_Ex (cuts := [2, 31]) hC 20 v
theorem hl_79_2 {sc : Nat × (Nat → Int32)} {Q : Int32 → St → Prop} : ∀ (n : Nat) (v0 : Int32) (v1 : Int32) (v2 : Int32) (v3 : Int32) (σ : St), Ap (lp_79_2 n v0 v1 v2 v3 σ) Q → Ex sc CC 2 cd_79 Q 2 [some (.int v0), some (.int v1), some (.int v2), some (.int v3), none, none] [] σ := by
  intro n
  induction n with
  | zero => intro v0 v1 v2 v3 σ h; exact n_no h
  | succ n ih =>
    intro v0 v1 v2 v3 σ h
    exact vh_79_2 monCC v0 v1 v2 v3 σ (n_if h (fun h => n_rb h) (fun h => n_if h (fun h => n_mb h (fun h => n_mb h (fun h => hl_79_31 (fun v0 v1 v2 v3 σ => lp_79_2 n v0 v1 v2 v3 σ) ih FU v0 v1 v2 v3 v0 (((v0 / v3) - (v0 / v3) / 10 * 10) + 1) σ h))) (fun h => n_if h (fun h => n_rb h) (fun h => n_mb h (fun h => n_mb h (fun h => hl_79_31 (fun v0 v1 v2 v3 σ => lp_79_2 n v0 v1 v2 v3 σ) ih FU v0 v1 v2 v3 v0 (((v0 / v3) - (v0 / v3) / 10 * 10) + 1) σ h))))))
set_option maxHeartbeats 20000000 in
set_option maxRecDepth 100000 in
theorem ve_79 {sc : Nat × (Nat → Int32)} {C : CT} (hC : MonC C) {Q : Int32 → St → Prop} (x1 x2 x3 : Int32) (σ : St) (v : Ex sc C 2 cd_79 Q 2 [some (.int x1), some (.int x2), some (.int x3), some (.int 1), none, none] [] σ) : Ex sc C 2 cd_79 Q 0 [some (.int x1), some (.int x2), some (.int x3), none, none, none] [] σ := wpn_Ex (cuts := [2, 31]) hC (fun _ _ _ _ z => z) 4 0 _ _ _ v
set_option maxHeartbeats 20000000 in
set_option maxRecDepth 100000 in
theorem hp_79 {sc : Nat × (Nat → Int32)} {Q : Int32 → St → Prop} {x1 x2 x3 : Int32} {σ : St} (h : Ap (sp_79 x1 x2 x3 σ) Q) : Ex sc CC 2 cd_79 Q 0 [some (.int x1), some (.int x2), some (.int x3), none, none, none] [] σ := by
  exact ve_79 monCC x1 x2 x3 σ (hl_79_2 FU x1 x2 x3 1 σ h)
-- TradeTests$Penalties.setRule
set_option maxHeartbeats 20000000 in
set_option maxRecDepth 100000 in
theorem ve_82 {sc : Nat × (Nat → Int32)} {C : CT} (hC : MonC C) {Q : Int32 → St → Prop} (x1 x2 : Int32) (σ : St) (v : vp_in x1 3 ∧ (vp_in x1 3 ∧ (Q (σ 46 (x1).toNatClampNeg) (up σ 46 (x1).toNatClampNeg x2)))) : Ex sc C 1 cd_82 Q 0 [some (.ref 10), some (.int x1), some (.int x2), none] [] σ := wpn_Ex (cuts := []) hC (fun _ _ _ _ z => z) 13 0 _ _ _ v
set_option maxHeartbeats 20000000 in
set_option maxRecDepth 100000 in
theorem hp_82 {sc : Nat × (Nat → Int32)} {Q : Int32 → St → Prop} {x1 x2 : Int32} {σ : St} (h : Ap (sp_82 x1 x2 σ) Q) : Ex sc CC 1 cd_82 Q 0 [some (.ref 10), some (.int x1), some (.int x2), none] [] σ := by
  exact ve_82 monCC x1 x2 σ (n_mb h (fun h => n_mb h (fun h => n_rt h)))
-- TradeTests$Penalties.rowSum
set_option maxHeartbeats 20000000 in
set_option maxRecDepth 100000 in
set_option maxHeartbeats 20000000 in
set_option maxRecDepth 100000 in
theorem vh_90_4 {sc : Nat × (Nat → Int32)} {C : CT} (hC : MonC C) {Q : Int32 → St → Prop} (v1 : Int32) (v2 : Int32) (v3 : Int32) (σ : St) (v : ((σ 3 14) ≤ v3 → Q v2 σ) ∧ (¬ (σ 3 14) ≤ v3 → vp_in v3 80 ∧ ((v1 < (σ 26 (v3).toNatClampNeg) → Ex sc C 1 cd_90 Q 4 [some (.ref 10), some (.int v1), some (.int v2), some (.int (v3 + 1))] [] σ) ∧ (¬ v1 < (σ 26 (v3).toNatClampNeg) → vp_in v3 80 ∧ (vp_in 0 3 ∧ (((σ 26 (v3).toNatClampNeg) ≤ (v1 - (σ 46 (0 : Int32).toNatClampNeg)) → Ex sc C 1 cd_90 Q 4 [some (.ref 10), some (.int v1), some (.int v2), some (.int (v3 + 1))] [] σ) ∧ (¬ (σ 26 (v3).toNatClampNeg) ≤ (v1 - (σ 46 (0 : Int32).toNatClampNeg)) → vp_in v3 80 ∧ (Ex sc C 1 cd_90 Q 4 [some (.ref 10), some (.int v1), some (.int (v2 + (σ 47 (v3).toNatClampNeg))), some (.int (v3 + 1))] [] σ)))))))) : Ex sc C 1 cd_90 Q 4 [some (.ref 10), some (.int v1), some (.int v2), some (.int v3)] [] σ := stw_Ex (cuts := [4]) hC 34 v
theorem hl_90_4 {sc : Nat × (Nat → Int32)} {Q : Int32 → St → Prop} : ∀ (n : Nat) (v1 : Int32) (v2 : Int32) (v3 : Int32) (σ : St), Ap (lp_90_4 n v1 v2 v3 σ) Q → Ex sc CC 1 cd_90 Q 4 [some (.ref 10), some (.int v1), some (.int v2), some (.int v3)] [] σ := by
  intro n
  induction n with
  | zero => intro v1 v2 v3 σ h; exact n_no h
  | succ n ih =>
    intro v1 v2 v3 σ h
    exact vh_90_4 monCC v1 v2 v3 σ (n_if h (fun h => n_rt h) (fun h => n_mb h (fun h => n_if h (fun h => ih v1 v2 (v3 + 1) σ h) (fun h => n_mb h (fun h => n_mb h (fun h => n_if h (fun h => ih v1 v2 (v3 + 1) σ h) (fun h => n_mb h (fun h => ih v1 (v2 + (σ 47 (v3).toNatClampNeg)) (v3 + 1) σ h))))))))
set_option maxHeartbeats 20000000 in
set_option maxRecDepth 100000 in
theorem ve_90 {sc : Nat × (Nat → Int32)} {C : CT} (hC : MonC C) {Q : Int32 → St → Prop} (x1 : Int32) (σ : St) (v : Ex sc C 1 cd_90 Q 4 [some (.ref 10), some (.int x1), some (.int 0), some (.int 0)] [] σ) : Ex sc C 1 cd_90 Q 0 [some (.ref 10), some (.int x1), none, none] [] σ := wpn_Ex (cuts := [4]) hC (fun _ _ _ _ z => z) 6 0 _ _ _ v
set_option maxHeartbeats 20000000 in
set_option maxRecDepth 100000 in
theorem hp_90 {sc : Nat × (Nat → Int32)} {Q : Int32 → St → Prop} {x1 : Int32} {σ : St} (h : Ap (sp_90 x1 σ) Q) : Ex sc CC 1 cd_90 Q 0 [some (.ref 10), some (.int x1), none, none] [] σ := by
  exact ve_90 monCC x1 σ (hl_90_4 FU x1 0 0 σ h)
-- TradeTests$Secrets.add
set_option maxHeartbeats 20000000 in
set_option maxRecDepth 100000 in
theorem ve_94 {sc : Nat × (Nat → Int32)} {C : CT} (hC : MonC C) {Q : Int32 → St → Prop} (x1 : Int32) (σ : St) (v : vp_in (σ 9 3) 6 ∧ (Q (((σ 9 3) + 1) - 1) (up (up σ 45 (σ 9 3).toNatClampNeg x1) 9 3 ((σ 9 3) + 1)))) : Ex sc C 1 cd_94 Q 0 [some (.ref 9), some (.int x1)] [] σ := wpn_Ex (cuts := []) hC (fun _ _ _ _ z => z) 18 0 _ _ _ v
set_option maxHeartbeats 20000000 in
set_option maxRecDepth 100000 in
theorem hp_94 {sc : Nat × (Nat → Int32)} {Q : Int32 → St → Prop} {x1 : Int32} {σ : St} (h : Ap (sp_94 x1 σ) Q) : Ex sc CC 1 cd_94 Q 0 [some (.ref 9), some (.int x1)] [] σ := by
  exact ve_94 monCC x1 σ (n_mb h (fun h => n_rt h))
-- TradeTests$Secrets.send
set_option maxHeartbeats 20000000 in
set_option maxRecDepth 100000 in
theorem ve_96 {sc : Nat × (Nat → Int32)} {C : CT} (hC : MonC C) {Q : Int32 → St → Prop} (x1 x2 : Int32) (σ : St) (v : vp_in x2 80 ∧ (Q 0 (up (up σ 35 (x2).toNatClampNeg ((1 : Int32) + x1)) 9 4 ((σ 9 4) + 1)))) : Ex sc C 0 cd_96 Q 0 [some (.ref 9), some (.int x1), some (.int x2)] [] σ := wpn_Ex (cuts := []) hC (fun _ _ _ _ z => z) 16 0 _ _ _ v
set_option maxHeartbeats 20000000 in
set_option maxRecDepth 100000 in
theorem hp_96 {sc : Nat × (Nat → Int32)} {Q : Int32 → St → Prop} {x1 x2 : Int32} {σ : St} (h : Ap (sp_96 x1 x2 σ) Q) : Ex sc CC 0 cd_96 Q 0 [some (.ref 9), some (.int x1), some (.int x2)] [] σ := by
  exact ve_96 monCC x1 x2 σ (n_mb h (fun h => n_rt h))
