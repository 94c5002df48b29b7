/-! the code does what the functions say (written by wip/whole/gen/spec.py) -/
-- TradeTestsModel.isTyped
set_option maxHeartbeats 20000000 in
set_option maxRecDepth 100000 in
theorem hl_171_52 {sc : Nat × (Nat → Int32)} {Q : Int32 → St → Prop} (ko : Int32 → Int32 → Int32 → Int32 → St → MR) (hko : ∀ (v0 : Int32) (v1 : Int32) (v2 : Int32) (v3 : Int32) (σ : St), Ap (ko v0 v1 v2 v3 σ) Q → Ex sc CC 2 cd_171 Q 2 [some (.int v0), some (.int v1), some (.int v2), some (.int v3), none, none, none] [] σ) : ∀ (n : Nat) (v0 : Int32) (v1 : Int32) (v2 : Int32) (v3 : Int32) (v4 : Int32) (v5 : Int32) (v6 : Int32) (σ : St), Ap (lp_171_52 ko n v0 v1 v2 v3 v4 v5 v6 σ) Q → Ex sc CC 2 cd_171 Q 52 [some (.int v0), some (.int v1), some (.int v2), some (.int v3), some (.int v4), some (.int v5), some (.int v6)] [] σ := by
  intro n
  induction n with
  | zero => intro v0 v1 v2 v3 v4 v5 v6 σ h; exact n_no h
  | succ n ih =>
    intro v0 v1 v2 v3 v4 v5 v6 σ h
    have v : (10 ≤ v6 → Ex sc CC 2 cd_171 Q 2 [some (.int v0), some (.int v1), some (.int v2), some (.int (v3 * 10)), some (.int v4), some (.int v5), some (.int v6)] [] σ) ∧ (¬ 10 ≤ v6 → (v6 = v4 → Ex sc CC 2 cd_171 Q 52 [some (.int v0), some (.int v1), some (.int v2), some (.int v3), some (.int v4), some (.int v5), some (.int (v6 + 1))] [] σ) ∧ (¬ v6 = v4 → CC 123 [.int (v0 + ((v6 - v4) * v3)), .int v1, .int v2] σ (fun r3 σ3 => (r3 = 0 → Ex sc CC 2 cd_171 Q 52 [some (.int v0), some (.int v1), some (.int v2), some (.int v3), some (.int v4), some (.int v5), some (.int (v6 + 1))] [] σ3) ∧ (¬ r3 = 0 → ((1 : Int32) = 0 ∨ (1 : Int32) = 1) ∧ Q 1 σ3)))) := n_if h (fun h => Ex_fg [true, true, true, true, false, false, false] (hko v0 v1 v2 (v3 * 10) σ h)) (fun h => n_if h (fun h => ih v0 v1 v2 v3 v4 v5 (v6 + 1) σ h) (fun h => cc_123 (n_bn h (fun r3 σ3 h => n_if h (fun h => ih v0 v1 v2 v3 v4 v5 (v6 + 1) σ3 h) (fun h => n_rb h)))))
    exact stw_Ex (cuts := [2, 52]) monCC 20 v
set_option maxHeartbeats 20000000 in
set_option maxRecDepth 100000 in
theorem hl_171_2 {sc : Nat × (Nat → Int32)} {Q : Int32 → St → Prop} : ∀ (n : Nat) (v0 : Int32) (v1 : Int32) (v2 : Int32) (v3 : Int32) (σ : St), Ap (lp_171_2 n v0 v1 v2 v3 σ) Q → Ex sc CC 2 cd_171 Q 2 [some (.int v0), some (.int v1), some (.int v2), some (.int v3), none, none, none] [] σ := by
  intro n
  induction n with
  | zero => intro v0 v1 v2 v3 σ h; exact n_no h
  | succ n ih =>
    intro v0 v1 v2 v3 σ h
    have v : (v3 = 1 → ¬ v3 = 0 ∧ (¬ (10 : Int32) = 0 ∧ (¬ v3 = 0 ∧ ((10 ≤ (v0 / v3) → ((0 : Int32) = 0 → Ex sc CC 2 cd_171 Q 52 [some (.int v0), some (.int v1), some (.int v2), some (.int v3), some (.int ((v0 / v3) - (v0 / v3) / 10 * 10)), some (.int 0), some (.int 0)] [] σ) ∧ (¬ (0 : Int32) = 0 → (v3 ≤ 1 → Ex sc CC 2 cd_171 Q 52 [some (.int v0), some (.int v1), some (.int v2), some (.int v3), some (.int ((v0 / v3) - (v0 / v3) / 10 * 10)), some (.int 0), some (.int 0)] [] σ) ∧ (¬ v3 ≤ 1 → Ex sc CC 2 cd_171 Q 52 [some (.int v0), some (.int v1), some (.int v2), some (.int v3), some (.int ((v0 / v3) - (v0 / v3) / 10 * 10)), some (.int 0), some (.int 1)] [] σ))) ∧ (¬ 10 ≤ (v0 / v3) → ((1 : Int32) = 0 → Ex sc CC 2 cd_171 Q 52 [some (.int v0), some (.int v1), some (.int v2), some (.int v3), some (.int ((v0 / v3) - (v0 / v3) / 10 * 10)), some (.int 1), some (.int 0)] [] σ) ∧ (¬ (1 : Int32) = 0 → (v3 ≤ 1 → Ex sc CC 2 cd_171 Q 52 [some (.int v0), some (.int v1), some (.int v2), some (.int v3), some (.int ((v0 / v3) - (v0 / v3) / 10 * 10)), some (.int 1), some (.int 0)] [] σ) ∧ (¬ v3 ≤ 1 → Ex sc CC 2 cd_171 Q 52 [some (.int v0), some (.int v1), some (.int v2), some (.int v3), some (.int ((v0 / v3) - (v0 / v3) / 10 * 10)), some (.int 1), some (.int 1)] [] σ))))))) ∧ (¬ v3 = 1 → (v0 < v3 → ((0 : Int32) = 0 ∨ (0 : Int32) = 1) ∧ Q 0 σ) ∧ (¬ v0 < v3 → ¬ v3 = 0 ∧ (¬ (10 : Int32) = 0 ∧ (¬ v3 = 0 ∧ ((10 ≤ (v0 / v3) → ((0 : Int32) = 0 → Ex sc CC 2 cd_171 Q 52 [some (.int v0), some (.int v1), some (.int v2), some (.int v3), some (.int ((v0 / v3) - (v0 / v3) / 10 * 10)), some (.int 0), some (.int 0)] [] σ) ∧ (¬ (0 : Int32) = 0 → (v3 ≤ 1 → Ex sc CC 2 cd_171 Q 52 [some (.int v0), some (.int v1), some (.int v2), some (.int v3), some (.int ((v0 / v3) - (v0 / v3) / 10 * 10)), some (.int 0), some (.int 0)] [] σ) ∧ (¬ v3 ≤ 1 → Ex sc CC 2 cd_171 Q 52 [some (.int v0), some (.int v1), some (.int v2), some (.int v3), some (.int ((v0 / v3) - (v0 / v3) / 10 * 10)), some (.int 0), some (.int 1)] [] σ))) ∧ (¬ 10 ≤ (v0 / v3) → ((1 : Int32) = 0 → Ex sc CC 2 cd_171 Q 52 [some (.int v0), some (.int v1), some (.int v2), some (.int v3), some (.int ((v0 / v3) - (v0 / v3) / 10 * 10)), some (.int 1), some (.int 0)] [] σ) ∧ (¬ (1 : Int32) = 0 → (v3 ≤ 1 → Ex sc CC 2 cd_171 Q 52 [some (.int v0), some (.int v1), some (.int v2), some (.int v3), some (.int ((v0 / v3) - (v0 / v3) / 10 * 10)), some (.int 1), some (.int 0)] [] σ) ∧ (¬ v3 ≤ 1 → Ex sc CC 2 cd_171 Q 52 [some (.int v0), some (.int v1), some (.int v2), some (.int v3), some (.int ((v0 / v3) - (v0 / v3) / 10 * 10)), some (.int 1), some (.int 1)] [] σ)))))))) := n_if h (fun h => n_mb h (fun h => n_mb h (fun h => n_mb h (fun h => n_if h (fun h => n_if h (fun h => hl_171_52 (fun v0 v1 v2 v3 σ => lp_171_2 n v0 v1 v2 v3 σ) ih FU v0 v1 v2 v3 ((v0 / v3) - (v0 / v3) / 10 * 10) 0 0 σ h) (fun h => n_if h (fun h => hl_171_52 (fun v0 v1 v2 v3 σ => lp_171_2 n v0 v1 v2 v3 σ) ih FU v0 v1 v2 v3 ((v0 / v3) - (v0 / v3) / 10 * 10) 0 0 σ h) (fun h => hl_171_52 (fun v0 v1 v2 v3 σ => lp_171_2 n v0 v1 v2 v3 σ) ih FU v0 v1 v2 v3 ((v0 / v3) - (v0 / v3) / 10 * 10) 0 1 σ h))) (fun h => n_if h (fun h => hl_171_52 (fun v0 v1 v2 v3 σ => lp_171_2 n v0 v1 v2 v3 σ) ih FU v0 v1 v2 v3 ((v0 / v3) - (v0 / v3) / 10 * 10) 1 0 σ h) (fun h => n_if h (fun h => hl_171_52 (fun v0 v1 v2 v3 σ => lp_171_2 n v0 v1 v2 v3 σ) ih FU v0 v1 v2 v3 ((v0 / v3) - (v0 / v3) / 10 * 10) 1 0 σ h) (fun h => hl_171_52 (fun v0 v1 v2 v3 σ => lp_171_2 n v0 v1 v2 v3 σ) ih FU v0 v1 v2 v3 ((v0 / v3) - (v0 / v3) / 10 * 10) 1 1 σ h))))))) (fun h => n_if h (fun h => n_rb h) (fun h => n_mb h (fun h => n_mb h (fun h => n_mb h (fun h => n_if h (fun h => n_if h (fun h => hl_171_52 (fun v0 v1 v2 v3 σ => lp_171_2 n v0 v1 v2 v3 σ) ih FU v0 v1 v2 v3 ((v0 / v3) - (v0 / v3) / 10 * 10) 0 0 σ h) (fun h => n_if h (fun h => hl_171_52 (fun v0 v1 v2 v3 σ => lp_171_2 n v0 v1 v2 v3 σ) ih FU v0 v1 v2 v3 ((v0 / v3) - (v0 / v3) / 10 * 10) 0 0 σ h) (fun h => hl_171_52 (fun v0 v1 v2 v3 σ => lp_171_2 n v0 v1 v2 v3 σ) ih FU v0 v1 v2 v3 ((v0 / v3) - (v0 / v3) / 10 * 10) 0 1 σ h))) (fun h => n_if h (fun h => hl_171_52 (fun v0 v1 v2 v3 σ => lp_171_2 n v0 v1 v2 v3 σ) ih FU v0 v1 v2 v3 ((v0 / v3) - (v0 / v3) / 10 * 10) 1 0 σ h) (fun h => n_if h (fun h => hl_171_52 (fun v0 v1 v2 v3 σ => lp_171_2 n v0 v1 v2 v3 σ) ih FU v0 v1 v2 v3 ((v0 / v3) - (v0 / v3) / 10 * 10) 1 0 σ h) (fun h => hl_171_52 (fun v0 v1 v2 v3 σ => lp_171_2 n v0 v1 v2 v3 σ) ih FU v0 v1 v2 v3 ((v0 / v3) - (v0 / v3) / 10 * 10) 1 1 σ h))))))))
    exact stw_Ex (cuts := [2, 52]) monCC 29 v
set_option maxHeartbeats 20000000 in
set_option maxRecDepth 100000 in
theorem hp_171 {sc : Nat × (Nat → Int32)} {Q : Int32 → St → Prop} {x1 x2 x3 : Int32} {σ : St} (h : Ap (sp_171 x1 x2 x3 σ) Q) : Ex sc CC 2 cd_171 Q 0 [some (.int x1), some (.int x2), some (.int x3), none, none, none, none] [] σ := by
  have v : Ex sc CC 2 cd_171 Q 2 [some (.int x1), some (.int x2), some (.int x3), some (.int 1), none, none, none] [] σ := hl_171_2 FU x1 x2 x3 1 σ h
  exact wpn_Ex (cuts := [2, 52]) monCC (fun _ _ _ _ z => z) 4 0 _ _ _ v
-- TradeTestsModel.rule
set_option maxHeartbeats 20000000 in
set_option maxRecDepth 100000 in
theorem hl_172_108 {sc : Nat × (Nat → Int32)} {Q : Int32 → St → Prop} : ∀ (v1 : Int32) (v2 : Int32) (v3 : Int32) (σ : St), Ap (lp_172_108 v1 v2 v3 σ) Q → Ex sc CC 1 cd_172 Q 108 [some (.ref 12), some (.int v1), some (.int v2), some (.int v3)] [] σ := by
  intro v1 v2 v3 σ h
  have v : (¬ v1 = 2 → Q v3 (up σ 12 13 (σ 12 13))) ∧ (v1 = 2 → Q v3 (up σ 12 13 v2)) := n_ne h (fun h => n_rt h) (fun h => n_rt h)
  exact stw_Ex (cuts := [47, 75, 91, 108]) monCC 9 v
set_option maxHeartbeats 20000000 in
set_option maxRecDepth 100000 in
theorem hl_172_91 {sc : Nat × (Nat → Int32)} {Q : Int32 → St → Prop} : ∀ (v1 : Int32) (v2 : Int32) (v3 : Int32) (σ : St), Ap (lp_172_91 v1 v2 v3 σ) Q → Ex sc CC 1 cd_172 Q 91 [some (.ref 12), some (.int v1), some (.int v2), some (.int v3)] [] σ := by
  intro v1 v2 v3 σ h
  have v : (¬ v1 = 1 → Ex sc CC 1 cd_172 Q 108 [some (.ref 12), some (.int v1), some (.int v2), some (.int v3)] [] (up σ 12 12 (σ 12 12))) ∧ (v1 = 1 → Ex sc CC 1 cd_172 Q 108 [some (.ref 12), some (.int v1), some (.int v2), some (.int v3)] [] (up σ 12 12 v2)) := n_ne h (fun h => hl_172_108 v1 v2 v3 (up σ 12 12 v2) h) (fun h => hl_172_108 v1 v2 v3 (up σ 12 12 (σ 12 12)) h)
  exact stw_Ex (cuts := [47, 75, 91, 108]) monCC 8 v
set_option maxHeartbeats 20000000 in
set_option maxRecDepth 100000 in
theorem hl_172_75 {sc : Nat × (Nat → Int32)} {Q : Int32 → St → Prop} : ∀ (v1 : Int32) (v2 : Int32) (v3 : Int32) (σ : St), Ap (lp_172_75 v1 v2 v3 σ) Q → Ex sc CC 1 cd_172 Q 75 [some (.ref 12), some (.int v1), some (.int v2), some (.int v3)] [] σ := by
  intro v1 v2 v3 σ h
  have v : (¬ v1 = 0 → Ex sc CC 1 cd_172 Q 91 [some (.ref 12), some (.int v1), some (.int v2), some (.int v3)] [] (up σ 12 11 (σ 12 11))) ∧ (v1 = 0 → Ex sc CC 1 cd_172 Q 91 [some (.ref 12), some (.int v1), some (.int v2), some (.int v3)] [] (up σ 12 11 v2)) := n_ne h (fun h => hl_172_91 v1 v2 v3 (up σ 12 11 v2) h) (fun h => hl_172_91 v1 v2 v3 (up σ 12 11 (σ 12 11)) h)
  exact stw_Ex (cuts := [47, 75, 91, 108]) monCC 7 v
set_option maxHeartbeats 20000000 in
set_option maxRecDepth 100000 in
theorem hl_172_47 {sc : Nat × (Nat → Int32)} {Q : Int32 → St → Prop} : ∀ (v1 : Int32) (v2 : Int32) (σ : St), Ap (lp_172_47 v1 v2 σ) Q → Ex sc CC 1 cd_172 Q 47 [some (.ref 12), some (.int v1), some (.int v2), none] [] σ := by
  intro v1 v2 σ h
  have v : (¬ v1 = 0 → (¬ v1 = 1 → Ex sc CC 1 cd_172 Q 75 [some (.ref 12), some (.int v1), some (.int v2), some (.int (σ 12 13))] [] σ) ∧ (v1 = 1 → Ex sc CC 1 cd_172 Q 75 [some (.ref 12), some (.int v1), some (.int v2), some (.int (σ 12 12))] [] σ)) ∧ (v1 = 0 → Ex sc CC 1 cd_172 Q 75 [some (.ref 12), some (.int v1), some (.int v2), some (.int (σ 12 11))] [] σ) := n_ne h (fun h => hl_172_75 v1 v2 (σ 12 11) σ h) (fun h => n_ne h (fun h => hl_172_75 v1 v2 (σ 12 12) σ h) (fun h => hl_172_75 v1 v2 (σ 12 13) σ h))
  exact stw_Ex (cuts := [47, 75, 91, 108]) monCC 10 v
set_option maxHeartbeats 20000000 in
set_option maxRecDepth 100000 in
theorem hp_172 {sc : Nat × (Nat → Int32)} {Q : Int32 → St → Prop} {x1 x2 : Int32} {σ : St} (h : Ap (sp_172 x1 x2 σ) Q) : Ex sc CC 1 cd_172 Q 0 [some (.ref 12), some (.int x1), some (.int x2), none] [] σ := by
  have v : CC 123 [.int x1, .int 0, .int 2] σ (fun r17 σ17 => (r17 = 0 → CC 125 [.ref 12, .int 1] σ17 (fun r18 σ18 => Q r18 σ18)) ∧ (¬ r17 = 0 → (¬ x1 = 0 → (¬ x1 = 1 → CC 123 [.int x2, .int 1, .int 200] σ17 (fun r19 σ19 => (¬ r19 = 0 → Ex sc CC 1 cd_172 Q 47 [some (.ref 12), some (.int x1), some (.int x2), none] [] σ19) ∧ (r19 = 0 → CC 125 [.ref 12, .int 1] σ19 (fun r20 σ20 => Q r20 σ20)))) ∧ (x1 = 1 → CC 123 [.int x2, .int 1, .int 1000] σ17 (fun r21 σ21 => (¬ r21 = 0 → Ex sc CC 1 cd_172 Q 47 [some (.ref 12), some (.int x1), some (.int x2), none] [] σ21) ∧ (r21 = 0 → CC 125 [.ref 12, .int 1] σ21 (fun r22 σ22 => Q r22 σ22))))) ∧ (x1 = 0 → CC 123 [.int x2, .int 1, .int 3650] σ17 (fun r23 σ23 => (¬ r23 = 0 → Ex sc CC 1 cd_172 Q 47 [some (.ref 12), some (.int x1), some (.int x2), none] [] σ23) ∧ (r23 = 0 → CC 125 [.ref 12, .int 1] σ23 (fun r24 σ24 => Q r24 σ24)))))) := cc_123 (n_bn h (fun r17 σ17 h => n_if h (fun h => cc_125 (n_bn h (fun r18 σ18 h => n_rt h))) (fun h => n_ne h (fun h => cc_123 (n_bn h (fun r23 σ23 h => n_ne h (fun h => cc_125 (n_bn h (fun r24 σ24 h => n_rt h))) (fun h => hl_172_47 x1 x2 σ23 h)))) (fun h => n_ne h (fun h => cc_123 (n_bn h (fun r21 σ21 h => n_ne h (fun h => cc_125 (n_bn h (fun r22 σ22 h => n_rt h))) (fun h => hl_172_47 x1 x2 σ21 h)))) (fun h => cc_123 (n_bn h (fun r19 σ19 h => n_ne h (fun h => cc_125 (n_bn h (fun r20 σ20 h => n_rt h))) (fun h => hl_172_47 x1 x2 σ19 h))))))))
  exact wpn_Ex (cuts := [47, 75, 91, 108]) monCC (fun _ _ _ _ z => z) 21 0 _ _ _ v
-- TradeTestsModel.missed
set_option maxHeartbeats 20000000 in
set_option maxRecDepth 100000 in
theorem hp_176 {sc : Nat × (Nat → Int32)} {Q : Int32 → St → Prop} {x1 : Int32} {σ : St} (h : Ap (sp_176 x1 σ) Q) : Ex sc CC 1 cd_176 Q 0 [some (.ref 12), some (.int x1), none] [] σ := by
  have v : vp_in x1 80 ∧ (CC 150 [.ref 12, .int (σ 61 (x1).toNatClampNeg)] σ (fun r3 σ3 => vp_in x1 80 ∧ (((σ3 68 (x1).toNatClampNeg) < 0 → Q 0 σ3) ∧ (¬ (σ3 68 (x1).toNatClampNeg) < 0 → (0 ≤ r3 → vp_in x1 80 ∧ (vp_in (σ3 68 (x1).toNatClampNeg) 6 ∧ (vp_in x1 80 ∧ (vp_in (((4 : Int32) * r3) + 1) 28 ∧ (Q (((σ3 77 (σ3 68 (x1).toNatClampNeg).toNatClampNeg) &&& ((σ3 67 (x1).toNatClampNeg) ^^^ (-1))) &&& (σ3 76 (((4 : Int32) * r3) + 1).toNatClampNeg)) σ3))))) ∧ (¬ 0 ≤ r3 → Q 0 σ3))))) := n_mb h (fun h => cc_150 (n_bn h (fun r3 σ3 h => n_mb h (fun h => n_if h (fun h => n_rt h) (fun h => n_if h (fun h => n_mb h (fun h => n_mb h (fun h => n_mb h (fun h => n_mb h (fun h => n_rt h))))) (fun h => n_rt h))))))
  exact wpn_Ex (cuts := []) monCC (fun _ _ _ _ z => z) 39 0 _ _ _ v
-- TradeTestsModel.sumOf
set_option maxHeartbeats 20000000 in
set_option maxRecDepth 100000 in
theorem hl_179_5 {sc : Nat × (Nat → Int32)} {Q : Int32 → St → Prop} : ∀ (n : Nat) (v1 : Int32) (v2 : Int32) (v3 : Int32) (v4 : Int32) (σ : St), Ap (lp_179_5 n v1 v2 v3 v4 σ) Q → Ex sc CC 1 cd_179 Q 5 [some (.ref 12), some (.int v1), some (.int v2), some (.int v3), some (.int v4)] [] σ := by
  intro n
  induction n with
  | zero => intro v1 v2 v3 v4 σ h; exact n_no h
  | succ n ih =>
    intro v1 v2 v3 v4 σ h
    have v : ((σ 12 4) ≤ v4 → Q v3 σ) ∧ (¬ (σ 12 4) ≤ v4 → vp_in v4 80 ∧ ((¬ (σ 60 (v4).toNatClampNeg) = v1 → Ex sc CC 1 cd_179 Q 5 [some (.ref 12), some (.int v1), some (.int v2), some (.int (v3 + 0)), some (.int (v4 + 1))] [] σ) ∧ ((σ 60 (v4).toNatClampNeg) = v1 → vp_in v4 80 ∧ (CC 123 [.int (σ 61 (v4).toNatClampNeg), .int ((v2 - (σ 12 11)) + 1), .int v2] σ (fun r3 σ3 => (r3 = 0 → Ex sc CC 1 cd_179 Q 5 [some (.ref 12), some (.int v1), some (.int v2), some (.int (v3 + 0)), some (.int (v4 + 1))] [] σ3) ∧ (¬ r3 = 0 → vp_in v4 80 ∧ (Ex sc CC 1 cd_179 Q 5 [some (.ref 12), some (.int v1), some (.int v2), some (.int (v3 + (σ3 81 (v4).toNatClampNeg))), some (.int (v4 + 1))] [] σ3))))))) := n_if h (fun h => n_rt h) (fun h => n_mb h (fun h => n_ne h (fun h => n_mb h (fun h => cc_123 (n_bn h (fun r3 σ3 h => n_if h (fun h => ih v1 v2 (v3 + 0) (v4 + 1) σ3 h) (fun h => n_mb h (fun h => ih v1 v2 (v3 + (σ3 81 (v4).toNatClampNeg)) (v4 + 1) σ3 h)))))) (fun h => ih v1 v2 (v3 + 0) (v4 + 1) σ h)))
    exact stw_Ex (cuts := [5]) monCC 34 v
set_option maxHeartbeats 20000000 in
set_option maxRecDepth 100000 in
theorem hp_179 {sc : Nat × (Nat → Int32)} {Q : Int32 → St → Prop} {x1 x2 : Int32} {σ : St} (h : Ap (sp_179 x1 x2 σ) Q) : Ex sc CC 1 cd_179 Q 0 [some (.ref 12), some (.int x1), some (.int x2), none, none] [] σ := by
  have v : Ex sc CC 1 cd_179 Q 5 [some (.ref 12), some (.int x1), some (.int x2), some (.int 0), some (.int 0)] [] σ := hl_179_5 FU x1 x2 0 0 σ h
  exact wpn_Ex (cuts := [5]) monCC (fun _ _ _ _ z => z) 6 0 _ _ _ v
-- TradeTestsModel.secret
set_option maxHeartbeats 20000000 in
set_option maxRecDepth 100000 in
theorem hp_181 {sc : Nat × (Nat → Int32)} {Q : Int32 → St → Prop} {x1 : Int32} {σ : St} (h : Ap (sp_181 x1 σ) Q) : Ex sc CC 1 cd_181 Q 0 [some (.ref 12), some (.int x1)] [] σ := by
  have v : CC 123 [.int x1, .int 1, .int 255] σ (fun r7 σ7 => (¬ r7 = 0 → (¬ (σ7 12 6) = 6 → vp_in (σ7 12 6) 6 ∧ (Q (((σ7 12 6) + 1) - 1) (up (up σ7 77 (σ7 12 6).toNatClampNeg x1) 12 6 ((σ7 12 6) + 1)))) ∧ ((σ7 12 6) = 6 → CC 125 [.ref 12, .int 4] σ7 (fun r8 σ8 => Q r8 σ8))) ∧ (r7 = 0 → CC 125 [.ref 12, .int 1] σ7 (fun r9 σ9 => Q r9 σ9))) := cc_123 (n_bn h (fun r7 σ7 h => n_ne h (fun h => cc_125 (n_bn h (fun r9 σ9 h => n_rt h))) (fun h => n_ne h (fun h => cc_125 (n_bn h (fun r8 σ8 h => n_rt h))) (fun h => n_mb h (fun h => n_rt h)))))
  exact wpn_Ex (cuts := []) monCC (fun _ _ _ _ z => z) 27 0 _ _ _ v
-- TradeTestsModel.error
set_option maxHeartbeats 20000000 in
set_option maxRecDepth 100000 in
theorem hl_188_19 {sc : Nat × (Nat → Int32)} {Q : Int32 → St → Prop} : ∀ (n : Nat) (v1 : Int32) (v2 : Int32) (v3 : Int32) (σ : St), Ap (lp_188_19 n v1 v2 v3 σ) Q → Ex sc CC 1 cd_188 Q 19 [some (.ref 12), some (.int v1), some (.int v2), some (.int v3), none] [] σ := by
  intro n
  induction n with
  | zero => intro v1 v2 v3 σ h; exact n_no h
  | succ n ih =>
    intro v1 v2 v3 σ h
    have v : ((σ 12 4) ≤ v3 → ¬ v1.toInt64 = 0 ∧ (Q ((((Int32.toInt64 1000) * v2.toInt64) / v1.toInt64).toInt32) σ)) ∧ (¬ (σ 12 4) ≤ v3 → vp_in v3 80 ∧ ((¬ (σ 69 (v3).toNatClampNeg) = 0 → vp_in v3 80 ∧ (¬ (σ 69 (v3).toNatClampNeg) = 0 ∧ (vp_in v3 80 ∧ (((σ 72 (v3).toNatClampNeg) = 0 → Ex sc CC 1 cd_188 Q 19 [some (.ref 12), some (.int (v1 + ((10000 : Int32) / (σ 69 (v3).toNatClampNeg)))), some (.int (v2 + 0)), some (.int (v3 + 1)), some (.int ((10000 : Int32) / (σ 69 (v3).toNatClampNeg)))] [] σ) ∧ (¬ (σ 72 (v3).toNatClampNeg) = 0 → Ex sc CC 1 cd_188 Q 19 [some (.ref 12), some (.int (v1 + ((10000 : Int32) / (σ 69 (v3).toNatClampNeg)))), some (.int (v2 + ((10000 : Int32) / (σ 69 (v3).toNatClampNeg)))), some (.int (v3 + 1)), some (.int ((10000 : Int32) / (σ 69 (v3).toNatClampNeg)))] [] σ))))) ∧ ((σ 69 (v3).toNatClampNeg) = 0 → vp_in v3 80 ∧ (((σ 72 (v3).toNatClampNeg) = 0 → Ex sc CC 1 cd_188 Q 19 [some (.ref 12), some (.int (v1 + 0)), some (.int (v2 + 0)), some (.int (v3 + 1)), some (.int 0)] [] σ) ∧ (¬ (σ 72 (v3).toNatClampNeg) = 0 → Ex sc CC 1 cd_188 Q 19 [some (.ref 12), some (.int (v1 + 0)), some (.int (v2 + 0)), some (.int (v3 + 1)), some (.int 0)] [] σ))))) := n_if h (fun h => n_mb h (fun h => n_rt h)) (fun h => n_mb h (fun h => n_ne h (fun h => n_mb h (fun h => n_if h (fun h => Ex_fg [true, true, true, true, false] (ih (v1 + 0) (v2 + 0) (v3 + 1) σ h)) (fun h => Ex_fg [true, true, true, true, false] (ih (v1 + 0) (v2 + 0) (v3 + 1) σ h)))) (fun h => n_mb h (fun h => n_mb h (fun h => n_mb h (fun h => n_if h (fun h => Ex_fg [true, true, true, true, false] (ih (v1 + ((10000 : Int32) / (σ 69 (v3).toNatClampNeg))) (v2 + 0) (v3 + 1) σ h)) (fun h => Ex_fg [true, true, true, true, false] (ih (v1 + ((10000 : Int32) / (σ 69 (v3).toNatClampNeg))) (v2 + ((10000 : Int32) / (σ 69 (v3).toNatClampNeg))) (v3 + 1) σ h))))))))
    exact stw_Ex (cuts := [19]) monCC 33 v
set_option maxHeartbeats 20000000 in
set_option maxRecDepth 100000 in
theorem hp_188 {sc : Nat × (Nat → Int32)} {Q : Int32 → St → Prop}  {σ : St} (h : Ap (sp_188  σ) Q) : Ex sc CC 1 cd_188 Q 0 [some (.ref 12), none, none, none, none] [] σ := by
  have v : (¬ (σ 12 8) = 0 → Ex sc CC 1 cd_188 Q 19 [some (.ref 12), some (.int 0), some (.int 0), some (.int 0), none] [] σ) ∧ ((σ 12 8) = 0 → CC 125 [.ref 12, .int 2] σ (fun r3 σ3 => Q r3 σ3)) := n_ne h (fun h => cc_125 (n_bn h (fun r3 σ3 h => n_rt h))) (fun h => hl_188_19 FU 0 0 0 σ h)
  exact wpn_Ex (cuts := [19]) monCC (fun _ _ _ _ z => z) 11 0 _ _ _ v
-- TradeTestsModel.tell
set_option maxHeartbeats 20000000 in
set_option maxRecDepth 100000 in
theorem hp_191 {sc : Nat × (Nat → Int32)} {Q : Int32 → St → Prop} {x1 : Int32} {σ : St} (h : Ap (sp_191 x1 σ) Q) : Ex sc CC 1 cd_191 Q 0 [some (.ref 12), some (.int x1)] [] σ := by
  have v : (¬ (σ 12 10) = 8 → vp_in (σ 12 10) 8 ∧ (Q ((σ 12 10) + 1) (up (up σ 79 (σ 12 10).toNatClampNeg x1) 12 10 ((σ 12 10) + 1)))) ∧ ((σ 12 10) = 8 → CC 125 [.ref 12, .int 4] σ (fun r3 σ3 => Q r3 σ3)) := n_ne h (fun h => cc_125 (n_bn h (fun r3 σ3 h => n_rt h))) (fun h => n_mb h (fun h => n_rt h))
  exact wpn_Ex (cuts := []) monCC (fun _ _ _ _ z => z) 20 0 _ _ _ v
-- TradeTestsModel.found
set_option maxHeartbeats 20000000 in
set_option maxRecDepth 100000 in
theorem hp_194 {sc : Nat × (Nat → Int32)} {Q : Int32 → St → Prop} {x1 : Int32} {σ : St} (h : Ap (sp_194 x1 σ) Q) : Ex sc CC 1 cd_194 Q 0 [some (.ref 12), some (.int x1)] [] σ := by
  have v : CC 123 [.int x1, .int 1, .int 5] σ (fun r5 σ5 => (r5 = 0 → CC 125 [.ref 12, .int 1] σ5 (fun r6 σ6 => Q r6 σ6)) ∧ (¬ r5 = 0 → vp_in x1 6 ∧ (Q (σ5 80 (x1).toNatClampNeg) σ5))) := cc_123 (n_bn h (fun r5 σ5 h => n_if h (fun h => cc_125 (n_bn h (fun r6 σ6 h => n_rt h))) (fun h => n_mb h (fun h => n_rt h))))
  exact wpn_Ex (cuts := []) monCC (fun _ _ _ _ z => z) 12 0 _ _ _ v
-- TradeTests.test
set_option maxHeartbeats 20000000 in
set_option maxRecDepth 100000 in
theorem hp_16 {sc : Nat × (Nat → Int32)} {Q : Int32 → St → Prop} {x1 x2 x3 x4 x5 : Int32} {σ : St} (h : Ap (sp_16 x1 x2 x3 x4 x5 σ) Q) : Ex sc CC 1 cd_16 Q 0 [some (.ref 0), some (.int x1), some (.int x2), some (.int x3), some (.int x4), some (.int x5)] [] σ := by
  have v : CC 17 [.ref 0, .int x1] σ (fun r25 σ25 => (r25 = 0 → CC 2 [.ref 0, .int 1] σ25 (fun r26 σ26 => Q r26 σ26)) ∧ (¬ r25 = 0 → CC 18 [.ref 0, .int x1, .int x2] σ25 (fun r27 σ27 => (r27 = 0 → CC 2 [.ref 0, .int 1] σ27 (fun r28 σ28 => Q r28 σ28)) ∧ (¬ r27 = 0 → CC 20 [.int x2, .int x3] σ27 (fun r29 σ29 => (¬ r29 = 0 → CC 21 [.ref 0, .int x1, .int x4] σ29 (fun r30 σ30 => (r30 = 0 → CC 2 [.ref 0, .int 1] σ30 (fun r31 σ31 => Q r31 σ31)) ∧ (¬ r30 = 0 → CC 1 [.int x5, .int 1000000] σ30 (fun r32 σ32 => (¬ r32 = 0 → ((σ32 3 14) < 80 → CC 22 [.ref 3, .int x1, .int x2, .int x3, .int x4, .int x5] σ32 (fun r33 σ33 => Q r33 σ33)) ∧ (¬ (σ32 3 14) < 80 → CC 2 [.ref 0, .int 4] σ32 (fun r34 σ34 => Q r34 σ34))) ∧ (r32 = 0 → CC 2 [.ref 0, .int 1] σ32 (fun r35 σ35 => Q r35 σ35)))))) ∧ (r29 = 0 → CC 2 [.ref 0, .int 1] σ29 (fun r36 σ36 => Q r36 σ36))))))) := cc_17 (n_bn h (fun r25 σ25 h => n_if h (fun h => cc_2 (n_bn h (fun r26 σ26 h => n_rt h))) (fun h => cc_18 (n_bn h (fun r27 σ27 h => n_if h (fun h => cc_2 (n_bn h (fun r28 σ28 h => n_rt h))) (fun h => cc_20 (n_bn h (fun r29 σ29 h => n_ne h (fun h => cc_2 (n_bn h (fun r36 σ36 h => n_rt h))) (fun h => cc_21 (n_bn h (fun r30 σ30 h => n_if h (fun h => cc_2 (n_bn h (fun r31 σ31 h => n_rt h))) (fun h => cc_1 (n_bn h (fun r32 σ32 h => n_ne h (fun h => cc_2 (n_bn h (fun r35 σ35 h => n_rt h))) (fun h => n_if h (fun h => cc_22 (n_bn h (fun r33 σ33 h => n_rt h))) (fun h => cc_2 (n_bn h (fun r34 σ34 h => n_rt h))))))))))))))))))
  exact wpn_Ex (cuts := []) monCC (fun _ _ _ _ z => z) 37 0 _ _ _ v
-- TradeTests.of
set_option maxHeartbeats 20000000 in
set_option maxRecDepth 100000 in
theorem hp_23 {sc : Nat × (Nat → Int32)} {Q : Int32 → St → Prop} {x1 x2 : Int32} {σ : St} (h : Ap (sp_23 x1 x2 σ) Q) : Ex sc CC 1 cd_23 Q 0 [some (.ref 0), some (.int x1), some (.int x2)] [] σ := by
  have v : CC 1 [.int x1, .int (σ 3 14)] σ (fun r13 σ13 => (r13 = 0 → CC 2 [.ref 0, .int 1] σ13 (fun r14 σ14 => Q r14 σ14)) ∧ (¬ r13 = 0 → CC 1 [.int x2, .int 11] σ13 (fun r15 σ15 => (¬ r15 = 0 → (¬ x2 = 10 → CC 25 [.ref 3, .int x1, .int x2] σ15 (fun r16 σ16 => Q r16 σ16)) ∧ (x2 = 10 → CC 24 [.ref 2, .ref 3, .int x1] σ15 (fun r17 σ17 => Q r17 σ17))) ∧ (r15 = 0 → CC 2 [.ref 0, .int 1] σ15 (fun r18 σ18 => Q r18 σ18))))) := cc_1 (n_bn h (fun r13 σ13 h => n_if h (fun h => cc_2 (n_bn h (fun r14 σ14 h => n_rt h))) (fun h => cc_1 (n_bn h (fun r15 σ15 h => n_ne h (fun h => cc_2 (n_bn h (fun r18 σ18 h => n_rt h))) (fun h => n_ne h (fun h => cc_24 (n_bn h (fun r17 σ17 h => n_rt h))) (fun h => cc_25 (n_bn h (fun r16 σ16 h => n_rt h)))))))))
  exact wpn_Ex (cuts := []) monCC (fun _ _ _ _ z => z) 22 0 _ _ _ v
-- TradeTests$Texts.readFault
set_option maxHeartbeats 20000000 in
set_option maxRecDepth 100000 in
theorem hl_34_69 {sc : Nat × (Nat → Int32)} {Q : Int32 → St → Prop} : ∀ (n : Nat) (v1 : Int32) (v2 : Int32) (v3 : Int32) (σ : St), Ap (lp_34_69 n v1 v2 v3 σ) Q → Ex sc CC 2 cd_34 Q 69 [some (.ref 4), some (.int v1), some (.int v2), some (.int v3)] [] σ := by
  intro n
  induction n with
  | zero => intro v1 v2 v3 σ h; exact n_no h
  | succ n ih =>
    intro v1 v2 v3 σ h
    have v : (4 ≤ v3 → ((1 : Int32) = 0 ∨ (1 : Int32) = 1) ∧ Q 1 σ) ∧ (¬ 4 ≤ v3 → CC 5 [.int v3, .int v2] σ (fun r15 σ15 => (r15 = 0 → Ex sc CC 2 cd_34 Q 69 [some (.ref 4), some (.int v1), some (.int v2), some (.int (v3 + 1))] [] σ15) ∧ (¬ r15 = 0 → vp_in (((σ15 4 7) * 4) + v3) 24 ∧ (vp_in (((σ15 4 7) * 4) + v3) 24 ∧ (Ex sc CC 2 cd_34 Q 69 [some (.ref 4), some (.int v1), some (.int v2), some (.int (v3 + 1))] [] (up σ15 42 (((σ15 4 7) * 4) + v3).toNatClampNeg ((σ15 42 (((σ15 4 7) * 4) + v3).toNatClampNeg) ||| v1))))))) := n_if h (fun h => n_rb h) (fun h => cc_5 (n_bn h (fun r15 σ15 h => n_if h (fun h => ih v1 v2 (v3 + 1) σ15 h) (fun h => n_mb h (fun h => n_mb h (fun h => ih v1 v2 (v3 + 1) (up σ15 42 (((σ15 4 7) * 4) + v3).toNatClampNeg ((σ15 42 (((σ15 4 7) * 4) + v3).toNatClampNeg) ||| v1)) h))))))
    exact stw_Ex (cuts := [69]) monCC 23 v
set_option maxHeartbeats 20000000 in
set_option maxRecDepth 100000 in
theorem hp_34 {sc : Nat × (Nat → Int32)} {Q : Int32 → St → Prop}  {σ : St} (h : Ap (sp_34  σ) Q) : Ex sc CC 2 cd_34 Q 0 [some (.ref 4), none, none, none] [] σ := by
  have v : CC 33 [.ref 4] σ (fun r16 σ16 => CC 35 [.int r16, .int 55] σ16 (fun r17 σ17 => (¬ r17 = 0 → CC 33 [.ref 4] σ17 (fun r18 σ18 => CC 33 [.ref 4] (up σ18 4 2 ((σ18 4 2) + 1)) (fun r19 σ19 => CC 36 [.int r19] σ19 (fun r20 σ20 => (0 ≤ r20 → CC 37 [.ref 4] (up σ20 4 2 ((σ20 4 2) + 1)) (fun r21 σ21 => (¬ r21 = 0 → Ex sc CC 2 cd_34 Q 69 [some (.ref 4), some (.int ((1 : Int32) <<< ((r18 - 48) &&& 31))), some (.int r20), some (.int 0)] [] σ21) ∧ (r21 = 0 → ((0 : Int32) = 0 ∨ (0 : Int32) = 1) ∧ Q 0 σ21))) ∧ (¬ 0 ≤ r20 → ((0 : Int32) = 0 ∨ (0 : Int32) = 1) ∧ Q 0 σ20))))) ∧ (r17 = 0 → ((0 : Int32) = 0 ∨ (0 : Int32) = 1) ∧ Q 0 σ17))) := cc_33 (n_bn h (fun r16 σ16 h => cc_35 (n_bn h (fun r17 σ17 h => n_ne h (fun h => n_rb h) (fun h => cc_33 (n_bn h (fun r18 σ18 h => cc_33 (n_bn h (fun r19 σ19 h => cc_36 (n_bn h (fun r20 σ20 h => n_if h (fun h => cc_37 (n_bn h (fun r21 σ21 h => n_ne h (fun h => n_rb h) (fun h => hl_34_69 FU ((1 : Int32) <<< ((r18 - 48) &&& 31)) r20 0 σ21 h)))) (fun h => n_rb h))))))))))))
  exact wpn_Ex (cuts := [69]) monCC (fun _ _ _ _ z => z) 37 0 _ _ _ v
-- TradeTests$Texts.readNumber
set_option maxHeartbeats 20000000 in
set_option maxRecDepth 100000 in
theorem hl_38_4 {sc : Nat × (Nat → Int32)} {Q : Int32 → St → Prop} : ∀ (n : Nat) (v1 : Int32) (v2 : Int32) (v3 : Int32) (σ : St), Ap (lp_38_4 n v1 v2 v3 σ) Q → Ex sc CC 1 cd_38 Q 4 [some (.ref 4), some (.int v1), some (.int v2), some (.int v3)] [] σ := by
  intro n
  induction n with
  | zero => intro v1 v2 v3 σ h; exact n_no h
  | succ n ih =>
    intro v1 v2 v3 σ h
    have v : (v1 ≤ v3 → (v3 ≤ 0 → Q (-1) σ) ∧ (¬ v3 ≤ 0 → CC 37 [.ref 4] σ (fun r11 σ11 => (r11 = 0 → Q (-1) σ11) ∧ (¬ r11 = 0 → Q v2 σ11)))) ∧ (¬ v1 ≤ v3 → CC 33 [.ref 4] σ (fun r12 σ12 => CC 35 [.int r12, .int 57] σ12 (fun r13 σ13 => (r13 = 0 → (v3 ≤ 0 → Q (-1) σ13) ∧ (¬ v3 ≤ 0 → CC 37 [.ref 4] σ13 (fun r14 σ14 => (r14 = 0 → Q (-1) σ14) ∧ (¬ r14 = 0 → Q v2 σ14)))) ∧ (¬ r13 = 0 → CC 33 [.ref 4] σ13 (fun r15 σ15 => Ex sc CC 1 cd_38 Q 4 [some (.ref 4), some (.int v1), some (.int (((v2 * 10) + r15) - 48)), some (.int (v3 + 1))] [] (up σ15 4 2 ((σ15 4 2) + 1))))))) := n_if h (fun h => n_if h (fun h => n_rt h) (fun h => cc_37 (n_bn h (fun r11 σ11 h => n_if h (fun h => n_rt h) (fun h => n_rt h))))) (fun h => cc_33 (n_bn h (fun r12 σ12 h => cc_35 (n_bn h (fun r13 σ13 h => n_if h (fun h => n_if h (fun h => n_rt h) (fun h => cc_37 (n_bn h (fun r14 σ14 h => n_if h (fun h => n_rt h) (fun h => n_rt h))))) (fun h => cc_33 (n_bn h (fun r15 σ15 h => ih v1 (((v2 * 10) + r15) - 48) (v3 + 1) (up σ15 4 2 ((σ15 4 2) + 1)) h))))))))
    exact stw_Ex (cuts := [4]) monCC 26 v
set_option maxHeartbeats 20000000 in
set_option maxRecDepth 100000 in
theorem hp_38 {sc : Nat × (Nat → Int32)} {Q : Int32 → St → Prop} {x1 : Int32} {σ : St} (h : Ap (sp_38 x1 σ) Q) : Ex sc CC 1 cd_38 Q 0 [some (.ref 4), some (.int x1), none, none] [] σ := by
  have v : Ex sc CC 1 cd_38 Q 4 [some (.ref 4), some (.int x1), some (.int 0), some (.int 0)] [] σ := hl_38_4 FU x1 0 0 σ h
  exact wpn_Ex (cuts := [4]) monCC (fun _ _ _ _ z => z) 6 0 _ _ _ v
-- TradeTests.verdict
set_option maxHeartbeats 20000000 in
set_option maxRecDepth 100000 in
theorem hp_42 {sc : Nat × (Nat → Int32)} {Q : Int32 → St → Prop} {x1 : Int32} {σ : St} (h : Ap (sp_42 x1 σ) Q) : Ex sc CC 1 cd_42 Q 0 [some (.ref 0), some (.int x1)] [] σ := by
  have v : CC 1 [.int x1, .int (σ 3 14)] σ (fun r7 σ7 => (¬ r7 = 0 → CC 43 [.ref 5, .int x1] σ7 (fun r8 σ8 => (r8 = 0 → Q 0 σ8) ∧ (¬ r8 = 0 → Q 1 σ8))) ∧ (r7 = 0 → CC 2 [.ref 0, .int 1] σ7 (fun r9 σ9 => Q r9 σ9))) := cc_1 (n_bn h (fun r7 σ7 h => n_ne h (fun h => cc_2 (n_bn h (fun r9 σ9 h => n_rt h))) (fun h => cc_43 (n_bn h (fun r8 σ8 h => n_if h (fun h => n_rt h) (fun h => n_rt h))))))
  exact wpn_Ex (cuts := []) monCC (fun _ _ _ _ z => z) 15 0 _ _ _ v
-- TradeTests$Judge.unlikeness
set_option maxHeartbeats 20000000 in
set_option maxRecDepth 100000 in
theorem hp_46 {sc : Nat × (Nat → Int32)} {Q : Int32 → St → Prop} {x1 : Int32} {σ : St} (h : Ap (sp_46 x1 σ) Q) : Ex sc CC 1 cd_46 Q 0 [some (.ref 5), some (.int x1), none] [] σ := by
  have v : vp_in x1 80 ∧ ((¬ (σ 33 (x1).toNatClampNeg) = 1 → CC 43 [.ref 5, .int x1] σ (fun r5 σ5 => (¬ (0 : Int32) = r5 → ((0 : Int32) = 0 → Q 2 σ5) ∧ (¬ (0 : Int32) = 0 → Q 1 σ5)) ∧ ((0 : Int32) = r5 → Q 0 σ5))) ∧ ((σ 33 (x1).toNatClampNeg) = 1 → CC 43 [.ref 5, .int x1] σ (fun r6 σ6 => (¬ (1 : Int32) = r6 → ((1 : Int32) = 0 → Q 2 σ6) ∧ (¬ (1 : Int32) = 0 → Q 1 σ6)) ∧ ((1 : Int32) = r6 → Q 0 σ6)))) := n_mb h (fun h => n_ne h (fun h => cc_43 (n_bn h (fun r6 σ6 h => n_ne h (fun h => n_rt h) (fun h => n_if h (fun h => n_rt h) (fun h => n_rt h))))) (fun h => cc_43 (n_bn h (fun r5 σ5 h => n_ne h (fun h => n_rt h) (fun h => n_if h (fun h => n_rt h) (fun h => n_rt h))))))
  exact wpn_Ex (cuts := []) monCC (fun _ _ _ _ z => z) 21 0 _ _ _ v
-- TradeTests$Signals.alikeTests
set_option maxHeartbeats 20000000 in
set_option maxRecDepth 100000 in
theorem hl_51_4 {sc : Nat × (Nat → Int32)} {Q : Int32 → St → Prop} : ∀ (n : Nat) (v1 : Int32) (v2 : Int32) (v3 : Int32) (σ : St), Ap (lp_51_4 n v1 v2 v3 σ) Q → Ex sc CC 1 cd_51 Q 4 [some (.ref 6), some (.int v1), some (.int v2), some (.int v3)] [] σ := by
  intro n
  induction n with
  | zero => intro v1 v2 v3 σ h; exact n_no h
  | succ n ih =>
    intro v1 v2 v3 σ h
    have v : ((σ 3 14) ≤ v3 → Q v2 σ) ∧ (¬ (σ 3 14) ≤ v3 → vp_in v3 80 ∧ (vp_in v1 80 ∧ ((¬ (σ 25 (v3).toNatClampNeg) = (σ 25 (v1).toNatClampNeg) → Ex sc CC 1 cd_51 Q 4 [some (.ref 6), some (.int v1), some (.int v2), some (.int (v3 + 1))] [] σ) ∧ ((σ 25 (v3).toNatClampNeg) = (σ 25 (v1).toNatClampNeg) → CC 52 [.ref 6, .int v3, .int v1] σ (fun r3 σ3 => (r3 = 0 → Ex sc CC 1 cd_51 Q 4 [some (.ref 6), some (.int v1), some (.int v2), some (.int (v3 + 1))] [] σ3) ∧ (¬ r3 = 0 → Ex sc CC 1 cd_51 Q 4 [some (.ref 6), some (.int v1), some (.int (v2 + 1)), some (.int (v3 + 1))] [] σ3)))))) := n_if h (fun h => n_rt h) (fun h => n_mb h (fun h => n_mb h (fun h => n_ne h (fun h => cc_52 (n_bn h (fun r3 σ3 h => n_if h (fun h => ih v1 v2 (v3 + 1) σ3 h) (fun h => ih v1 (v2 + 1) (v3 + 1) σ3 h)))) (fun h => ih v1 v2 (v3 + 1) σ h))))
    exact stw_Ex (cuts := [4]) monCC 25 v
set_option maxHeartbeats 20000000 in
set_option maxRecDepth 100000 in
theorem hp_51 {sc : Nat × (Nat → Int32)} {Q : Int32 → St → Prop} {x1 : Int32} {σ : St} (h : Ap (sp_51 x1 σ) Q) : Ex sc CC 1 cd_51 Q 0 [some (.ref 6), some (.int x1), none, none] [] σ := by
  have v : Ex sc CC 1 cd_51 Q 4 [some (.ref 6), some (.int x1), some (.int 0), some (.int 0)] [] σ := hl_51_4 FU x1 0 0 σ h
  exact wpn_Ex (cuts := [4]) monCC (fun _ _ _ _ z => z) 6 0 _ _ _ v
-- TradeTests$Signals.isShut
set_option maxHeartbeats 20000000 in
set_option maxRecDepth 100000 in
theorem hp_57 {sc : Nat × (Nat → Int32)} {Q : Int32 → St → Prop} {x1 : Int32} {σ : St} (h : Ap (sp_57 x1 σ) Q) : Ex sc CC 2 cd_57 Q 0 [some (.ref 6), some (.int x1), none] [] σ := by
  have v : CC 24 [.ref 2, .ref 3, .int x1] σ (fun r3 σ3 => vp_in x1 80 ∧ (vp_in r3 6 ∧ (((σ3 27 (x1).toNatClampNeg) < (σ3 18 (r3).toNatClampNeg) → ((1 : Int32) = 0 ∨ (1 : Int32) = 1) ∧ Q 1 σ3) ∧ (¬ (σ3 27 (x1).toNatClampNeg) < (σ3 18 (r3).toNatClampNeg) → vp_in x1 80 ∧ (vp_in x1 80 ∧ (vp_in r3 6 ∧ ((((σ3 27 (x1).toNatClampNeg) + (σ3 28 (x1).toNatClampNeg)) ≤ (σ3 19 (r3).toNatClampNeg) → ((0 : Int32) = 0 ∨ (0 : Int32) = 1) ∧ Q 0 σ3) ∧ (¬ ((σ3 27 (x1).toNatClampNeg) + (σ3 28 (x1).toNatClampNeg)) ≤ (σ3 19 (r3).toNatClampNeg) → ((1 : Int32) = 0 ∨ (1 : Int32) = 1) ∧ Q 1 σ3)))))))) := cc_24 (n_bn h (fun r3 σ3 h => n_mb h (fun h => n_mb h (fun h => n_if h (fun h => n_rb h) (fun h => n_mb h (fun h => n_mb h (fun h => n_mb h (fun h => n_if h (fun h => n_rb h) (fun h => n_rb h)))))))))
  exact wpn_Ex (cuts := []) monCC (fun _ _ _ _ z => z) 39 0 _ _ _ v
-- TradeTests$Judge.isFalsePass
set_option maxHeartbeats 20000000 in
set_option maxRecDepth 100000 in
theorem hp_58 {sc : Nat × (Nat → Int32)} {Q : Int32 → St → Prop} {x1 : Int32} {σ : St} (h : Ap (sp_58 x1 σ) Q) : Ex sc CC 2 cd_58 Q 0 [some (.ref 5), some (.int x1)] [] σ := by
  have v : vp_in x1 80 ∧ ((¬ (σ 33 (x1).toNatClampNeg) = 1 → ((0 : Int32) = 0 ∨ (0 : Int32) = 1) ∧ Q 0 σ) ∧ ((σ 33 (x1).toNatClampNeg) = 1 → CC 43 [.ref 5, .int x1] σ (fun r3 σ3 => (¬ r3 = 0 → ((0 : Int32) = 0 ∨ (0 : Int32) = 1) ∧ Q 0 σ3) ∧ (r3 = 0 → ((1 : Int32) = 0 ∨ (1 : Int32) = 1) ∧ Q 1 σ3)))) := n_mb h (fun h => n_ne h (fun h => cc_43 (n_bn h (fun r3 σ3 h => n_ne h (fun h => n_rb h) (fun h => n_rb h)))) (fun h => n_rb h))
  exact wpn_Ex (cuts := []) monCC (fun _ _ _ _ z => z) 15 0 _ _ _ v
-- TradeTests$Rates.fillCells
set_option maxHeartbeats 20000000 in
set_option maxRecDepth 100000 in
theorem hl_63_30 {sc : Nat × (Nat → Int32)} {Q : Int32 → St → Prop} : ∀ (n : Nat) (v1 : Int32) (σ : St), Ap (lp_63_30 n v1 σ) Q → Ex sc CC 0 cd_63 Q 30 [some (.ref 7), some (.int v1), none] [] σ := by
  intro n
  induction n with
  | zero => intro v1 σ h; exact n_no h
  | succ n ih =>
    intro v1 σ h
    have v : ((σ 3 14) ≤ v1 → Q 0 σ) ∧ (¬ (σ 3 14) ≤ v1 → CC 64 [.ref 7, .int v1] σ (fun r3 σ3 => vp_in r3 16 ∧ (vp_in r3 16 ∧ (vp_in r3 16 ∧ (vp_in v1 80 ∧ (vp_in r3 16 ∧ (Ex sc CC 0 cd_63 Q 30 [some (.ref 7), some (.int (v1 + 1)), some (.int r3)] [] (up (up σ3 43 (r3).toNatClampNeg ((σ3 43 (r3).toNatClampNeg) + 1)) 44 (r3).toNatClampNeg ((σ3 44 (r3).toNatClampNeg) + (σ3 33 (v1).toNatClampNeg)))))))))) := n_if h (fun h => n_rt h) (fun h => cc_64 (n_bn h (fun r3 σ3 h => n_mb h (fun h => n_mb h (fun h => n_mb h (fun h => n_mb h (fun h => n_mb h (fun h => Ex_fg [true, true, false] (ih (v1 + 1) (up (up σ3 43 (r3).toNatClampNeg ((σ3 43 (r3).toNatClampNeg) + 1)) 44 (r3).toNatClampNeg ((σ3 44 (r3).toNatClampNeg) + (σ3 33 (v1).toNatClampNeg))) h)))))))))
    exact stw_Ex (cuts := [2, 30]) monCC 32 v
set_option maxHeartbeats 20000000 in
set_option maxRecDepth 100000 in
theorem hl_63_2 {sc : Nat × (Nat → Int32)} {Q : Int32 → St → Prop} : ∀ (n : Nat) (v1 : Int32) (σ : St), Ap (lp_63_2 n v1 σ) Q → Ex sc CC 0 cd_63 Q 2 [some (.ref 7), some (.int v1), none] [] σ := by
  intro n
  induction n with
  | zero => intro v1 σ h; exact n_no h
  | succ n ih =>
    intro v1 σ h
    have v : (16 ≤ v1 → Ex sc CC 0 cd_63 Q 30 [some (.ref 7), some (.int 0), none] [] σ) ∧ (¬ 16 ≤ v1 → vp_in v1 16 ∧ (vp_in v1 16 ∧ (Ex sc CC 0 cd_63 Q 2 [some (.ref 7), some (.int (v1 + 1)), none] [] (up (up σ 43 (v1).toNatClampNeg 0) 44 (v1).toNatClampNeg 0)))) := n_if h (fun h => hl_63_30 FU 0 σ h) (fun h => n_mb h (fun h => n_mb h (fun h => ih (v1 + 1) (up (up σ 43 (v1).toNatClampNeg 0) 44 (v1).toNatClampNeg 0) h)))
    exact stw_Ex (cuts := [2, 30]) monCC 16 v
set_option maxHeartbeats 20000000 in
set_option maxRecDepth 100000 in
theorem hp_63 {sc : Nat × (Nat → Int32)} {Q : Int32 → St → Prop}  {σ : St} (h : Ap (sp_63  σ) Q) : Ex sc CC 0 cd_63 Q 0 [some (.ref 7), none, none] [] σ := by
  have v : Ex sc CC 0 cd_63 Q 2 [some (.ref 7), some (.int 0), none] [] σ := hl_63_2 FU 0 σ h
  exact wpn_Ex (cuts := [2, 30]) monCC (fun _ _ _ _ z => z) 4 0 _ _ _ v
-- TradeTests$Rates.measure
set_option maxHeartbeats 20000000 in
set_option maxRecDepth 100000 in
theorem hl_66_22 {sc : Nat × (Nat → Int32)} {Q : Int32 → St → Prop} : ∀ (n : Nat) (v1 : Int32) (v2 : Int32) (σ : St), Ap (lp_66_22 n v1 v2 σ) Q → Ex sc CC 0 cd_66 Q 22 [some (.ref 7), some (.int v1), some (.int v2), none] [] σ := by
  intro n
  induction n with
  | zero => intro v1 v2 σ h; exact n_no h
  | succ n ih =>
    intro v1 v2 σ h
    have v : ((σ 3 14) ≤ v2 → Q 0 σ) ∧ (¬ (σ 3 14) ≤ v2 → CC 24 [.ref 2, .ref 3, .int v2] σ (fun r7 σ7 => (¬ r7 = v1 → Ex sc CC 0 cd_66 Q 22 [some (.ref 7), some (.int v1), some (.int (v2 + 1)), none] [] σ7) ∧ (r7 = v1 → CC 64 [.ref 7, .int v2] σ7 (fun r8 σ8 => CC 67 [.ref 7, .int r8] σ8 (fun r9 σ9 => vp_in v2 80 ∧ (Ex sc CC 0 cd_66 Q 22 [some (.ref 7), some (.int v1), some (.int (v2 + 1)), some (.int r9)] [] (up (up (up (up σ9 7 5 ((σ9 7 5) + 1)) 7 6 ((σ9 7 6) + (σ9 33 (v2).toNatClampNeg))) 7 7 ((σ9 7 7) + r9)) 7 8 ((σ9 7 8) + (r9 * ((1000 : Int32) - r9)))))))))) := n_if h (fun h => n_rt h) (fun h => cc_24 (n_bn h (fun r7 σ7 h => n_ne h (fun h => cc_64 (n_bn h (fun r8 σ8 h => cc_67 (n_bn h (fun r9 σ9 h => n_mb h (fun h => Ex_fg [true, true, true, false] (ih v1 (v2 + 1) (up (up (up (up σ9 7 5 ((σ9 7 5) + 1)) 7 6 ((σ9 7 6) + (σ9 33 (v2).toNatClampNeg))) 7 7 ((σ9 7 7) + r9)) 7 8 ((σ9 7 8) + (r9 * ((1000 : Int32) - r9)))) h))))))) (fun h => ih v1 (v2 + 1) σ7 h))))
    exact stw_Ex (cuts := [22]) monCC 54 v
set_option maxHeartbeats 20000000 in
set_option maxRecDepth 100000 in
theorem hp_66 {sc : Nat × (Nat → Int32)} {Q : Int32 → St → Prop} {x1 : Int32} {σ : St} (h : Ap (sp_66 x1 σ) Q) : Ex sc CC 0 cd_66 Q 0 [some (.ref 7), some (.int x1), none, none] [] σ := by
  have v : Ex sc CC 0 cd_66 Q 22 [some (.ref 7), some (.int x1), some (.int 0), none] [] (up (up (up (up σ 7 5 0) 7 6 0) 7 7 0) 7 8 0) := hl_66_22 FU x1 0 (up (up (up (up σ 7 5 0) 7 6 0) 7 7 0) 7 8 0) h
  exact wpn_Ex (cuts := [22]) monCC (fun _ _ _ _ z => z) 16 0 _ _ _ v
-- TradeTests$Rates.garagesWithTests
set_option maxHeartbeats 20000000 in
set_option maxRecDepth 100000 in
theorem hl_70_4 {sc : Nat × (Nat → Int32)} {Q : Int32 → St → Prop} : ∀ (n : Nat) (v1 : Int32) (v2 : Int32) (σ : St), Ap (lp_70_4 n v1 v2 σ) Q → Ex sc CC 1 cd_70 Q 4 [some (.ref 7), some (.int v1), some (.int v2)] [] σ := by
  intro n
  induction n with
  | zero => intro v1 v2 σ h; exact n_no h
  | succ n ih =>
    intro v1 v2 σ h
    have v : ((σ 3 14) ≤ v2 → CC 59 [.int v1] σ (fun r5 σ5 => Q r5 σ5)) ∧ (¬ (σ 3 14) ≤ v2 → CC 24 [.ref 2, .ref 3, .int v2] σ (fun r6 σ6 => Ex sc CC 1 cd_70 Q 4 [some (.ref 7), some (.int (v1 ||| ((1 : Int32) <<< (r6 &&& 31)))), some (.int (v2 + 1))] [] σ6)) := n_if h (fun h => cc_59 (n_bn h (fun r5 σ5 h => n_rt h))) (fun h => cc_24 (n_bn h (fun r6 σ6 h => ih (v1 ||| ((1 : Int32) <<< (r6 &&& 31))) (v2 + 1) σ6 h)))
    exact stw_Ex (cuts := [4]) monCC 19 v
set_option maxHeartbeats 20000000 in
set_option maxRecDepth 100000 in
theorem hp_70 {sc : Nat × (Nat → Int32)} {Q : Int32 → St → Prop}  {σ : St} (h : Ap (sp_70  σ) Q) : Ex sc CC 1 cd_70 Q 0 [some (.ref 7), none, none] [] σ := by
  have v : Ex sc CC 1 cd_70 Q 4 [some (.ref 7), some (.int 0), some (.int 0)] [] σ := hl_70_4 FU 0 0 σ h
  exact wpn_Ex (cuts := [4]) monCC (fun _ _ _ _ z => z) 6 0 _ _ _ v
-- TradeTests.falls
set_option maxHeartbeats 20000000 in
set_option maxRecDepth 100000 in
theorem hp_75 {sc : Nat × (Nat → Int32)} {Q : Int32 → St → Prop} {x1 : Int32} {σ : St} (h : Ap (sp_75 x1 σ) Q) : Ex sc CC 1 cd_75 Q 0 [some (.ref 0), some (.int x1)] [] σ := by
  have v : CC 1 [.int x1, .int (σ 3 14)] σ (fun r9 σ9 => (¬ r9 = 0 → vp_in x1 80 ∧ (vp_in (σ9 24 (x1).toNatClampNeg) 24 ∧ ((¬ (σ9 15 (σ9 24 (x1).toNatClampNeg).toNatClampNeg) = 3 → CC 76 [.ref 8, .int x1] σ9 (fun r10 σ10 => Q r10 σ10)) ∧ ((σ9 15 (σ9 24 (x1).toNatClampNeg).toNatClampNeg) = 3 → CC 2 [.ref 0, .int 5] σ9 (fun r11 σ11 => Q r11 σ11))))) ∧ (r9 = 0 → CC 2 [.ref 0, .int 1] σ9 (fun r12 σ12 => Q r12 σ12))) := cc_1 (n_bn h (fun r9 σ9 h => n_ne h (fun h => cc_2 (n_bn h (fun r12 σ12 h => n_rt h))) (fun h => n_mb h (fun h => n_mb h (fun h => n_ne h (fun h => cc_2 (n_bn h (fun r11 σ11 h => n_rt h))) (fun h => cc_76 (n_bn h (fun r10 σ10 h => n_rt h))))))))
  exact wpn_Ex (cuts := []) monCC (fun _ _ _ _ z => z) 23 0 _ _ _ v
-- TradeTests.rule
set_option maxHeartbeats 20000000 in
set_option maxRecDepth 100000 in
theorem hp_80 {sc : Nat × (Nat → Int32)} {Q : Int32 → St → Prop} {x1 x2 : Int32} {σ : St} (h : Ap (sp_80 x1 x2 σ) Q) : Ex sc CC 1 cd_80 Q 0 [some (.ref 0), some (.int x1), some (.int x2)] [] σ := by
  have v : CC 81 [.ref 10, .int x1, .int x2] σ (fun r7 σ7 => (¬ r7 = 0 → CC 82 [.ref 10, .int x1, .int x2] σ7 (fun r8 σ8 => Q r8 σ8)) ∧ (r7 = 0 → CC 2 [.ref 0, .int 1] σ7 (fun r9 σ9 => Q r9 σ9))) := cc_81 (n_bn h (fun r7 σ7 h => n_ne h (fun h => cc_2 (n_bn h (fun r9 σ9 h => n_rt h))) (fun h => cc_82 (n_bn h (fun r8 σ8 h => n_rt h)))))
  exact wpn_Ex (cuts := []) monCC (fun _ _ _ _ z => z) 13 0 _ _ _ v
-- TradeTests$Secrets.missed
set_option maxHeartbeats 20000000 in
set_option maxRecDepth 100000 in
theorem hp_86 {sc : Nat × (Nat → Int32)} {Q : Int32 → St → Prop} {x1 : Int32} {σ : St} (h : Ap (sp_86 x1 σ) Q) : Ex sc CC 1 cd_86 Q 0 [some (.ref 9), some (.int x1), none] [] σ := by
  have v : vp_in x1 80 ∧ (CC 40 [.ref 4, .int (σ 26 (x1).toNatClampNeg)] σ (fun r7 σ7 => (0 ≤ r7 → CC 60 [.ref 9, .int x1] σ7 (fun r8 σ8 => vp_in x1 80 ∧ (CC 41 [.ref 4, .int r7, .int 1] σ8 (fun r9 σ9 => Q ((r8 &&& ((σ8 32 (x1).toNatClampNeg) ^^^ (-1))) &&& r9) σ9)))) ∧ (¬ 0 ≤ r7 → Q 0 σ7))) := n_mb h (fun h => cc_40 (n_bn h (fun r7 σ7 h => n_if h (fun h => cc_60 (n_bn h (fun r8 σ8 h => n_mb h (fun h => cc_41 (n_bn h (fun r9 σ9 h => n_rt h)))))) (fun h => n_rt h))))
  exact wpn_Ex (cuts := []) monCC (fun _ _ _ _ z => z) 30 0 _ _ _ v
-- TradeTests$Plan.fillBest
set_option maxHeartbeats 20000000 in
set_option maxRecDepth 100000 in
theorem hl_102_16 {sc : Nat × (Nat → Int32)} {Q : Int32 → St → Prop} (ko : Int32 → St → MR) (hko : ∀ (v1 : Int32) (σ : St), Ap (ko v1 σ) Q → Ex sc CC 0 cd_102 Q 10 [some (.ref 11), some (.int v1), none] [] σ) : ∀ (n : Nat) (v1 : Int32) (v2 : Int32) (σ : St), Ap (lp_102_16 ko n v1 v2 σ) Q → Ex sc CC 0 cd_102 Q 16 [some (.ref 11), some (.int v1), some (.int v2)] [] σ := by
  intro n
  induction n with
  | zero => intro v1 v2 σ h; exact n_no h
  | succ n ih =>
    intro v1 v2 σ h
    have v : (64 ≤ v2 → Ex sc CC 0 cd_102 Q 10 [some (.ref 11), some (.int (v1 + (-1))), some (.int v2)] [] σ) ∧ (¬ 64 ≤ v2 → CC 103 [.ref 11, .int v1, .int v2] σ (fun r3 σ3 => vp_in ((v1 * 64) + v2) 448 ∧ (Ex sc CC 0 cd_102 Q 16 [some (.ref 11), some (.int v1), some (.int (v2 + 1))] [] (up σ3 49 ((v1 * 64) + v2).toNatClampNeg r3)))) := n_if h (fun h => Ex_fg [true, true, false] (hko (v1 + (-1)) σ h)) (fun h => cc_103 (n_bn h (fun r3 σ3 h => n_mb h (fun h => ih v1 (v2 + 1) (up σ3 49 ((v1 * 64) + v2).toNatClampNeg r3) h))))
    exact stw_Ex (cuts := [10, 16]) monCC 18 v
set_option maxHeartbeats 20000000 in
set_option maxRecDepth 100000 in
theorem hl_102_10 {sc : Nat × (Nat → Int32)} {Q : Int32 → St → Prop} : ∀ (n : Nat) (v1 : Int32) (σ : St), Ap (lp_102_10 n v1 σ) Q → Ex sc CC 0 cd_102 Q 10 [some (.ref 11), some (.int v1), none] [] σ := by
  intro n
  induction n with
  | zero => intro v1 σ h; exact n_no h
  | succ n ih =>
    intro v1 σ h
    have v : (v1 < 0 → Q 0 σ) ∧ (¬ v1 < 0 → Ex sc CC 0 cd_102 Q 16 [some (.ref 11), some (.int v1), some (.int 0)] [] σ) := n_if h (fun h => n_rt h) (fun h => hl_102_16 (fun v1 σ => lp_102_10 n v1 σ) ih FU v1 0 σ h)
    exact stw_Ex (cuts := [10, 16]) monCC 5 v
set_option maxHeartbeats 20000000 in
set_option maxRecDepth 100000 in
theorem hp_102 {sc : Nat × (Nat → Int32)} {Q : Int32 → St → Prop}  {σ : St} (h : Ap (sp_102  σ) Q) : Ex sc CC 0 cd_102 Q 0 [some (.ref 11), none, none] [] σ := by
  have v : Ex sc CC 0 cd_102 Q 10 [some (.ref 11), some (.int ((σ 9 3) - 1)), none] [] σ := hl_102_10 FU ((σ 9 3) - 1) σ h
  exact wpn_Ex (cuts := [10, 16]) monCC (fun _ _ _ _ z => z) 8 0 _ _ _ v
-- TradeTests$Plan.garageFor
set_option maxHeartbeats 20000000 in
set_option maxRecDepth 100000 in
theorem hl_108_7 {sc : Nat × (Nat → Int32)} {Q : Int32 → St → Prop} : ∀ (n : Nat) (v1 : Int32) (v2 : Int32) (v3 : Int32) (v4 : Int32) (σ : St), Ap (lp_108_7 n v1 v2 v3 v4 σ) Q → Ex sc CC 1 cd_108 Q 7 [some (.ref 11), some (.int v1), some (.int v2), some (.int v3), some (.int v4)] [] σ := by
  intro n
  induction n with
  | zero => intro v1 v2 v3 v4 σ h; exact n_no h
  | succ n ih =>
    intro v1 v2 v3 v4 σ h
    have v : (v1 < v4 → Q v3 σ) ∧ (¬ v1 < v4 → CC 109 [.ref 11, .int v4, .int v2] σ (fun r3 σ3 => (0 ≤ r3 → Ex sc CC 1 cd_108 Q 7 [some (.ref 11), some (.int v1), some (.int (v2 ||| ((1 : Int32) <<< (r3 &&& 31)))), some (.int r3), some (.int (v4 + 1))] [] σ3) ∧ (¬ 0 ≤ r3 → Ex sc CC 1 cd_108 Q 7 [some (.ref 11), some (.int v1), some (.int v2), some (.int r3), some (.int (v4 + 1))] [] σ3))) := n_if h (fun h => n_rt h) (fun h => cc_109 (n_bn h (fun r3 σ3 h => n_if h (fun h => ih v1 (v2 ||| ((1 : Int32) <<< (r3 &&& 31))) r3 (v4 + 1) σ3 h) (fun h => ih v1 v2 r3 (v4 + 1) σ3 h))))
    exact stw_Ex (cuts := [7]) monCC 19 v
set_option maxHeartbeats 20000000 in
set_option maxRecDepth 100000 in
theorem hp_108 {sc : Nat × (Nat → Int32)} {Q : Int32 → St → Prop} {x1 : Int32} {σ : St} (h : Ap (sp_108 x1 σ) Q) : Ex sc CC 1 cd_108 Q 0 [some (.ref 11), some (.int x1), none, none, none] [] σ := by
  have v : Ex sc CC 1 cd_108 Q 7 [some (.ref 11), some (.int x1), some (.int 0), some (.int (-1)), some (.int 0)] [] σ := hl_108_7 FU x1 0 (-1) 0 σ h
  exact wpn_Ex (cuts := [7]) monCC (fun _ _ _ _ z => z) 8 0 _ _ _ v
-- TradeTestsModel.vehicle
set_option maxHeartbeats 20000000 in
set_option maxRecDepth 100000 in
theorem hp_122 {sc : Nat × (Nat → Int32)} {Q : Int32 → St → Prop} {x1 x2 x3 : Int32} {σ : St} (h : Ap (sp_122 x1 x2 x3 σ) Q) : Ex sc CC 1 cd_122 Q 0 [some (.ref 12), some (.int x1), some (.int x2), some (.int x3)] [] σ := by
  have v : CC 123 [.int x1, .int 0, .int 3] σ (fun r15 σ15 => (r15 = 0 → CC 125 [.ref 12, .int 1] σ15 (fun r16 σ16 => Q r16 σ16)) ∧ (¬ r15 = 0 → CC 123 [.int x2, .int 0, .int 3] σ15 (fun r17 σ17 => (r17 = 0 → CC 125 [.ref 12, .int 1] σ17 (fun r18 σ18 => Q r18 σ18)) ∧ (¬ r17 = 0 → CC 124 [.int x3] σ17 (fun r19 σ19 => (¬ r19 = 0 → (¬ (σ19 12 0) = 24 → vp_in (σ19 12 0) 24 ∧ (vp_in (σ19 12 0) 24 ∧ (vp_in (σ19 12 0) 24 ∧ (Q (((σ19 12 0) + 1) - 1) (up (up (up (up σ19 50 (σ19 12 0).toNatClampNeg x1) 51 (σ19 12 0).toNatClampNeg x2) 52 (σ19 12 0).toNatClampNeg x3) 12 0 ((σ19 12 0) + 1)))))) ∧ ((σ19 12 0) = 24 → CC 125 [.ref 12, .int 4] σ19 (fun r20 σ20 => Q r20 σ20))) ∧ (r19 = 0 → CC 125 [.ref 12, .int 1] σ19 (fun r21 σ21 => Q r21 σ21))))))) := cc_123 (n_bn h (fun r15 σ15 h => n_if h (fun h => cc_125 (n_bn h (fun r16 σ16 h => n_rt h))) (fun h => cc_123 (n_bn h (fun r17 σ17 h => n_if h (fun h => cc_125 (n_bn h (fun r18 σ18 h => n_rt h))) (fun h => cc_124 (n_bn h (fun r19 σ19 h => n_ne h (fun h => cc_125 (n_bn h (fun r21 σ21 h => n_rt h))) (fun h => n_ne h (fun h => cc_125 (n_bn h (fun r20 σ20 h => n_rt h))) (fun h => n_mb h (fun h => n_mb h (fun h => n_mb h (fun h => n_rt h)))))))))))))
  exact wpn_Ex (cuts := []) monCC (fun _ _ _ _ z => z) 47 0 _ _ _ v
-- TradeTestsModel.as
set_option maxHeartbeats 20000000 in
set_option maxRecDepth 100000 in
theorem hp_126 {sc : Nat × (Nat → Int32)} {Q : Int32 → St → Prop} {x1 x2 : Int32} {σ : St} (h : Ap (sp_126 x1 x2 σ) Q) : Ex sc CC 1 cd_126 Q 0 [some (.ref 12), some (.int x1), some (.int x2)] [] σ := by
  have v : CC 127 [.ref 12, .int x1] σ (fun r15 σ15 => (r15 = 0 → CC 125 [.ref 12, .int 1] σ15 (fun r16 σ16 => Q r16 σ16)) ∧ (¬ r15 = 0 → CC 123 [.int x2, .int 0, .int 3] σ15 (fun r17 σ17 => (¬ r17 = 0 → vp_in x1 24 ∧ (CC 128 [.int (σ17 50 (x1).toNatClampNeg), .int x2] σ17 (fun r18 σ18 => (r18 = 0 → CC 125 [.ref 12, .int 5] σ18 (fun r19 σ19 => Q r19 σ19)) ∧ (¬ r18 = 0 → CC 129 [.ref 12, .int x1] σ18 (fun r20 σ20 => Q r20 σ20))))) ∧ (r17 = 0 → CC 125 [.ref 12, .int 1] σ17 (fun r21 σ21 => Q r21 σ21))))) := cc_127 (n_bn h (fun r15 σ15 h => n_if h (fun h => cc_125 (n_bn h (fun r16 σ16 h => n_rt h))) (fun h => cc_123 (n_bn h (fun r17 σ17 h => n_ne h (fun h => cc_125 (n_bn h (fun r21 σ21 h => n_rt h))) (fun h => n_mb h (fun h => cc_128 (n_bn h (fun r18 σ18 h => n_if h (fun h => cc_125 (n_bn h (fun r19 σ19 h => n_rt h))) (fun h => cc_129 (n_bn h (fun r20 σ20 h => n_rt h))))))))))))
  exact wpn_Ex (cuts := []) monCC (fun _ _ _ _ z => z) 22 0 _ _ _ v
-- TradeTestsModel.tester
set_option maxHeartbeats 20000000 in
set_option maxRecDepth 100000 in
theorem hp_131 {sc : Nat × (Nat → Int32)} {Q : Int32 → St → Prop} {x1 : Int32} {σ : St} (h : Ap (sp_131 x1 σ) Q) : Ex sc CC 1 cd_131 Q 0 [some (.ref 12), some (.int x1)] [] σ := by
  have v : CC 132 [.ref 12, .int x1] σ (fun r7 σ7 => (¬ r7 = 0 → (¬ (σ7 12 2) = 8 → vp_in (σ7 12 2) 8 ∧ (Q (((σ7 12 2) + 1) - 1) (up (up σ7 55 (σ7 12 2).toNatClampNeg x1) 12 2 ((σ7 12 2) + 1)))) ∧ ((σ7 12 2) = 8 → CC 125 [.ref 12, .int 4] σ7 (fun r8 σ8 => Q r8 σ8))) ∧ (r7 = 0 → CC 125 [.ref 12, .int 1] σ7 (fun r9 σ9 => Q r9 σ9))) := cc_132 (n_bn h (fun r7 σ7 h => n_ne h (fun h => cc_125 (n_bn h (fun r9 σ9 h => n_rt h))) (fun h => n_ne h (fun h => cc_125 (n_bn h (fun r8 σ8 h => n_rt h))) (fun h => n_mb h (fun h => n_rt h)))))
  exact wpn_Ex (cuts := []) monCC (fun _ _ _ _ z => z) 26 0 _ _ _ v
-- TradeTestsModel.move
set_option maxHeartbeats 20000000 in
set_option maxRecDepth 100000 in
theorem hl_133_32 {sc : Nat × (Nat → Int32)} {Q : Int32 → St → Prop} : ∀ (n : Nat) (v1 : Int32) (v2 : Int32) (v3 : Int32) (v4 : Int32) (σ : St), Ap (lp_133_32 n v1 v2 v3 v4 σ) Q → Ex sc CC 1 cd_133 Q 32 [some (.ref 12), some (.int v1), some (.int v2), some (.int v3), some (.int v4)] [] σ := by
  intro n
  induction n with
  | zero => intro v1 v2 v3 v4 σ h; exact n_no h
  | succ n ih =>
    intro v1 v2 v3 v4 σ h
    have v : ((σ 12 3) ≤ v4 → (¬ (σ 12 3) = 30 → CC 135 [.ref 12, .int v1, .int (v3 - 1)] σ (fun r19 σ19 => vp_in (σ19 12 3) 30 ∧ (vp_in (σ19 12 3) 30 ∧ (vp_in (σ19 12 3) 30 ∧ (Q r19 (up (up (up (up σ19 56 (σ19 12 3).toNatClampNeg v1) 57 (σ19 12 3).toNatClampNeg v2) 58 (σ19 12 3).toNatClampNeg v3) 12 3 ((σ19 12 3) + 1))))))) ∧ ((σ 12 3) = 30 → CC 125 [.ref 12, .int 4] σ (fun r20 σ20 => Q r20 σ20))) ∧ (¬ (σ 12 3) ≤ v4 → vp_in v4 30 ∧ ((¬ (σ 56 (v4).toNatClampNeg) = v1 → Ex sc CC 1 cd_133 Q 32 [some (.ref 12), some (.int v1), some (.int v2), some (.int v3), some (.int (v4 + 1))] [] σ) ∧ ((σ 56 (v4).toNatClampNeg) = v1 → vp_in v4 30 ∧ (((σ 58 (v4).toNatClampNeg) ≤ v3 → Ex sc CC 1 cd_133 Q 32 [some (.ref 12), some (.int v1), some (.int v2), some (.int v3), some (.int (v4 + 1))] [] σ) ∧ (¬ (σ 58 (v4).toNatClampNeg) ≤ v3 → CC 125 [.ref 12, .int 1] σ (fun r21 σ21 => Q r21 σ21)))))) := n_if h (fun h => n_ne h (fun h => cc_125 (n_bn h (fun r20 σ20 h => n_rt h))) (fun h => cc_135 (n_bn h (fun r19 σ19 h => n_mb h (fun h => n_mb h (fun h => n_mb h (fun h => n_rt h))))))) (fun h => n_mb h (fun h => n_ne h (fun h => n_mb h (fun h => n_if h (fun h => ih v1 v2 v3 (v4 + 1) σ h) (fun h => cc_125 (n_bn h (fun r21 σ21 h => n_rt h))))) (fun h => ih v1 v2 v3 (v4 + 1) σ h)))
    exact stw_Ex (cuts := [32]) monCC 41 v
set_option maxHeartbeats 20000000 in
set_option maxRecDepth 100000 in
theorem hp_133 {sc : Nat × (Nat → Int32)} {Q : Int32 → St → Prop} {x1 x2 x3 : Int32} {σ : St} (h : Ap (sp_133 x1 x2 x3 σ) Q) : Ex sc CC 1 cd_133 Q 0 [some (.ref 12), some (.int x1), some (.int x2), some (.int x3), none] [] σ := by
  have v : CC 134 [.ref 12, .int x1] σ (fun r22 σ22 => (r22 = 0 → CC 125 [.ref 12, .int 1] σ22 (fun r23 σ23 => Q r23 σ23)) ∧ (¬ r22 = 0 → CC 132 [.ref 12, .int x2] σ22 (fun r24 σ24 => (r24 = 0 → CC 125 [.ref 12, .int 1] σ24 (fun r25 σ25 => Q r25 σ25)) ∧ (¬ r24 = 0 → CC 124 [.int x3] σ24 (fun r26 σ26 => (¬ r26 = 0 → Ex sc CC 1 cd_133 Q 32 [some (.ref 12), some (.int x1), some (.int x2), some (.int x3), some (.int 0)] [] σ26) ∧ (r26 = 0 → CC 125 [.ref 12, .int 1] σ26 (fun r27 σ27 => Q r27 σ27))))))) := cc_134 (n_bn h (fun r22 σ22 h => n_if h (fun h => cc_125 (n_bn h (fun r23 σ23 h => n_rt h))) (fun h => cc_132 (n_bn h (fun r24 σ24 h => n_if h (fun h => cc_125 (n_bn h (fun r25 σ25 h => n_rt h))) (fun h => cc_124 (n_bn h (fun r26 σ26 h => n_ne h (fun h => cc_125 (n_bn h (fun r27 σ27 h => n_rt h))) (fun h => hl_133_32 FU x1 x2 x3 0 σ26 h)))))))))
  exact wpn_Ex (cuts := [32]) monCC (fun _ _ _ _ z => z) 16 0 _ _ _ v
-- TradeTestsModel.at
set_option maxHeartbeats 20000000 in
set_option maxRecDepth 100000 in
theorem hp_136 {sc : Nat × (Nat → Int32)} {Q : Int32 → St → Prop} {x1 x2 : Int32} {σ : St} (h : Ap (sp_136 x1 x2 σ) Q) : Ex sc CC 1 cd_136 Q 0 [some (.ref 12), some (.int x1), some (.int x2)] [] σ := by
  have v : CC 134 [.ref 12, .int x1] σ (fun r11 σ11 => (r11 = 0 → CC 125 [.ref 12, .int 1] σ11 (fun r12 σ12 => Q r12 σ12)) ∧ (¬ r11 = 0 → CC 124 [.int x2] σ11 (fun r13 σ13 => (r13 = 0 → CC 125 [.ref 12, .int 1] σ13 (fun r14 σ14 => Q r14 σ14)) ∧ (¬ r13 = 0 → CC 135 [.ref 12, .int x1, .int x2] σ13 (fun r15 σ15 => Q r15 σ15))))) := cc_134 (n_bn h (fun r11 σ11 h => n_if h (fun h => cc_125 (n_bn h (fun r12 σ12 h => n_rt h))) (fun h => cc_124 (n_bn h (fun r13 σ13 h => n_if h (fun h => cc_125 (n_bn h (fun r14 σ14 h => n_rt h))) (fun h => cc_135 (n_bn h (fun r15 σ15 h => n_rt h))))))))
  exact wpn_Ex (cuts := []) monCC (fun _ _ _ _ z => z) 14 0 _ _ _ v
-- TradeTestsModel.isTold
set_option maxHeartbeats 20000000 in
set_option maxRecDepth 100000 in
theorem hp_138 {sc : Nat × (Nat → Int32)} {Q : Int32 → St → Prop} {x1 x2 x3 x4 x5 : Int32} {σ : St} (h : Ap (sp_138 x1 x2 x3 x4 x5 σ) Q) : Ex sc CC 2 cd_138 Q 0 [some (.ref 12), some (.int x1), some (.int x2), some (.int x3), some (.int x4), some (.int x5), none] [] σ := by
  have v : (x1 < 0 → ((0 : Int32) = 0 ∨ (0 : Int32) = 1) ∧ Q 0 σ) ∧ (¬ x1 < 0 → (x2 < 0 → ((0 : Int32) = 0 ∨ (0 : Int32) = 1) ∧ Q 0 σ) ∧ (¬ x2 < 0 → (x3 < 0 → ((0 : Int32) = 0 ∨ (0 : Int32) = 1) ∧ Q 0 σ) ∧ (¬ x3 < 0 → (x5 < 0 → ((0 : Int32) = 0 ∨ (0 : Int32) = 1) ∧ Q 0 σ) ∧ (¬ x5 < 0 → ¬ (100 : Int32) = 0 ∧ (CC 127 [.ref 12, .int (x1 / 100)] σ (fun r17 σ17 => (r17 = 0 → ((0 : Int32) = 0 ∨ (0 : Int32) = 1) ∧ Q 0 σ17) ∧ (¬ r17 = 0 → ¬ (100 : Int32) = 0 ∧ (CC 134 [.ref 12, .int (x1 - x1 / 100 * 100)] σ17 (fun r18 σ18 => (¬ r18 = 0 → ¬ (10000 : Int32) = 0 ∧ (¬ (100 : Int32) = 0 ∧ (vp_in (x1 / 100) 24 ∧ (((x2 - x2 / 10000 * 10000) < (σ18 52 (x1 / 100).toNatClampNeg) → ((0 : Int32) = 0 ∨ (0 : Int32) = 1) ∧ Q 0 σ18) ∧ (¬ (x2 - x2 / 10000 * 10000) < (σ18 52 (x1 / 100).toNatClampNeg) → ((σ18 12 4) ≤ 0 → ¬ (10000 : Int32) = 0 ∧ ((1439 < (x2 / 10000) → ((0 : Int32) = 0 ∨ (0 : Int32) = 1) ∧ Q 0 σ18) ∧ (¬ 1439 < (x2 / 10000) → ¬ (1000 : Int32) = 0 ∧ (CC 123 [.int (x3 / 1000), .int 1, .int 240] σ18 (fun r19 σ19 => (r19 = 0 → ((0 : Int32) = 0 ∨ (0 : Int32) = 1) ∧ Q 0 σ19) ∧ (¬ r19 = 0 → ¬ (1000 : Int32) = 0 ∧ ((511 < (x3 - x3 / 1000 * 1000) → ((0 : Int32) = 0 ∨ (0 : Int32) = 1) ∧ Q 0 σ19) ∧ (¬ 511 < (x3 - x3 / 1000 * 1000) → ¬ (10000 : Int32) = 0 ∧ (¬ (1000 : Int32) = 0 ∧ ((((x2 / 10000) + (x3 / 1000)) ≤ 1440 → ¬ (100 : Int32) = 0 ∧ (vp_in (x1 / 100) 24 ∧ ((¬ (σ19 50 (x1 / 100).toNatClampNeg) = 3 → CC 123 [.int x4, .int 0, .int 999999] σ19 (fun r20 σ20 => (r20 = 0 → ((0 : Int32) = 0 ∨ (0 : Int32) = 1) ∧ Q 0 σ20) ∧ (¬ r20 = 0 → (1000000 ≤ x5 → ((0 : Int32) = 0 ∨ (0 : Int32) = 1) ∧ Q 0 σ20) ∧ (¬ 1000000 ≤ x5 → ((1 : Int32) = 0 ∨ (1 : Int32) = 1) ∧ Q 1 σ20)))) ∧ ((σ19 50 (x1 / 100).toNatClampNeg) = 3 → CC 123 [.int x4, .int 0, .int 0] σ19 (fun r21 σ21 => (r21 = 0 → ((0 : Int32) = 0 ∨ (0 : Int32) = 1) ∧ Q 0 σ21) ∧ (¬ r21 = 0 → (1000000 ≤ x5 → ((0 : Int32) = 0 ∨ (0 : Int32) = 1) ∧ Q 0 σ21) ∧ (¬ 1000000 ≤ x5 → ((1 : Int32) = 0 ∨ (1 : Int32) = 1) ∧ Q 1 σ21))))))) ∧ (¬ ((x2 / 10000) + (x3 / 1000)) ≤ 1440 → ((0 : Int32) = 0 ∨ (0 : Int32) = 1) ∧ Q 0 σ19))))))))))) ∧ (¬ (σ18 12 4) ≤ 0 → vp_in ((σ18 12 4) - 1) 80 ∧ (((σ18 61 ((σ18 12 4) - 1).toNatClampNeg) ≤ (x2 - x2 / 10000 * 10000) → ¬ (10000 : Int32) = 0 ∧ ((1439 < (x2 / 10000) → ((0 : Int32) = 0 ∨ (0 : Int32) = 1) ∧ Q 0 σ18) ∧ (¬ 1439 < (x2 / 10000) → ¬ (1000 : Int32) = 0 ∧ (CC 123 [.int (x3 / 1000), .int 1, .int 240] σ18 (fun r22 σ22 => (r22 = 0 → ((0 : Int32) = 0 ∨ (0 : Int32) = 1) ∧ Q 0 σ22) ∧ (¬ r22 = 0 → ¬ (1000 : Int32) = 0 ∧ ((511 < (x3 - x3 / 1000 * 1000) → ((0 : Int32) = 0 ∨ (0 : Int32) = 1) ∧ Q 0 σ22) ∧ (¬ 511 < (x3 - x3 / 1000 * 1000) → ¬ (10000 : Int32) = 0 ∧ (¬ (1000 : Int32) = 0 ∧ ((((x2 / 10000) + (x3 / 1000)) ≤ 1440 → ¬ (100 : Int32) = 0 ∧ (vp_in (x1 / 100) 24 ∧ ((¬ (σ22 50 (x1 / 100).toNatClampNeg) = 3 → CC 123 [.int x4, .int 0, .int 999999] σ22 (fun r23 σ23 => (r23 = 0 → ((0 : Int32) = 0 ∨ (0 : Int32) = 1) ∧ Q 0 σ23) ∧ (¬ r23 = 0 → (1000000 ≤ x5 → ((0 : Int32) = 0 ∨ (0 : Int32) = 1) ∧ Q 0 σ23) ∧ (¬ 1000000 ≤ x5 → ((1 : Int32) = 0 ∨ (1 : Int32) = 1) ∧ Q 1 σ23)))) ∧ ((σ22 50 (x1 / 100).toNatClampNeg) = 3 → CC 123 [.int x4, .int 0, .int 0] σ22 (fun r24 σ24 => (r24 = 0 → ((0 : Int32) = 0 ∨ (0 : Int32) = 1) ∧ Q 0 σ24) ∧ (¬ r24 = 0 → (1000000 ≤ x5 → ((0 : Int32) = 0 ∨ (0 : Int32) = 1) ∧ Q 0 σ24) ∧ (¬ 1000000 ≤ x5 → ((1 : Int32) = 0 ∨ (1 : Int32) = 1) ∧ Q 1 σ24))))))) ∧ (¬ ((x2 / 10000) + (x3 / 1000)) ≤ 1440 → ((0 : Int32) = 0 ∨ (0 : Int32) = 1) ∧ Q 0 σ22))))))))))) ∧ (¬ (σ18 61 ((σ18 12 4) - 1).toNatClampNeg) ≤ (x2 - x2 / 10000 * 10000) → ((0 : Int32) = 0 ∨ (0 : Int32) = 1) ∧ Q 0 σ18)))))))) ∧ (r18 = 0 → ((0 : Int32) = 0 ∨ (0 : Int32) = 1) ∧ Q 0 σ18)))))))))) := n_if h (fun h => n_rb h) (fun h => n_if h (fun h => n_rb h) (fun h => n_if h (fun h => n_rb h) (fun h => n_if h (fun h => n_rb h) (fun h => n_mb h (fun h => cc_127 (n_bn h (fun r17 σ17 h => n_if h (fun h => n_rb h) (fun h => n_mb h (fun h => cc_134 (n_bn h (fun r18 σ18 h => n_ne h (fun h => n_rb h) (fun h => n_mb h (fun h => n_mb h (fun h => n_mb h (fun h => n_if h (fun h => n_rb h) (fun h => n_if h (fun h => n_mb h (fun h => n_if h (fun h => n_rb h) (fun h => n_mb h (fun h => cc_123 (n_bn h (fun r19 σ19 h => n_if h (fun h => n_rb h) (fun h => n_mb h (fun h => n_if h (fun h => n_rb h) (fun h => n_mb h (fun h => n_mb h (fun h => n_if h (fun h => n_mb h (fun h => n_mb h (fun h => n_ne h (fun h => cc_123 (n_bn h (fun r21 σ21 h => n_if h (fun h => n_rb h) (fun h => n_if h (fun h => n_rb h) (fun h => n_rb h))))) (fun h => cc_123 (n_bn h (fun r20 σ20 h => n_if h (fun h => n_rb h) (fun h => n_if h (fun h => n_rb h) (fun h => n_rb h)))))))) (fun h => n_rb h)))))))))))) (fun h => n_mb h (fun h => n_if h (fun h => n_mb h (fun h => n_if h (fun h => n_rb h) (fun h => n_mb h (fun h => cc_123 (n_bn h (fun r22 σ22 h => n_if h (fun h => n_rb h) (fun h => n_mb h (fun h => n_if h (fun h => n_rb h) (fun h => n_mb h (fun h => n_mb h (fun h => n_if h (fun h => n_mb h (fun h => n_mb h (fun h => n_ne h (fun h => cc_123 (n_bn h (fun r24 σ24 h => n_if h (fun h => n_rb h) (fun h => n_if h (fun h => n_rb h) (fun h => n_rb h))))) (fun h => cc_123 (n_bn h (fun r23 σ23 h => n_if h (fun h => n_rb h) (fun h => n_if h (fun h => n_rb h) (fun h => n_rb h)))))))) (fun h => n_rb h)))))))))))) (fun h => n_rb h)))))))))))))))))))
  exact wpn_Ex (cuts := []) monCC (fun _ _ _ _ z => z) 91 0 _ _ _ v
