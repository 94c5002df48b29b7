/-! points of a test; pairs: points -/
def bc (x : Int32) : Int32 := (sp_59 x (fun _ _ => 0)).2.1
theorem e59 (x : Int32) (σ : St) : sp_59 x σ = rt (bc x) σ := rfl
def onF : Nat → Int32 → Int32 → Option Int32
  | 0, _, _ => none
  | n + 1, c, s => if s = 0 then some c else onF n (c + 1) (s &&& (s - 1))
theorem onF_lp {v0 : Int32} {σ : St} : ∀ (n : Nat) (c s r : Int32), onF n c s = some r → ∀ k, n ≤ k → lp_160_4 k v0 c s σ = rt r σ
  | 0, _, _, _, h, _, _ => by cases h
  | n + 1, c, s, r, h, 0, hk => absurd hk (by omega)
  | n + 1, c, s, r, h, k + 1, hk => by
    have h : (if s = 0 then some c else onF n (c + 1) (s &&& (s - 1))) = some r := h
    rw [lp_160_4]
    by_cases e : s = 0
    · rw [if_pos e] at h ⊢
      cases h
      rfl
    · rw [if_neg e] at h ⊢
      exact onF_lp n _ _ _ h k (by omega)
set_option maxRecDepth 100000 in
theorem on_dec {j : Nat} (hj : j < 256) : onF 9 0 (nI j) = some (bc (nI j)) ∧ rg (bc (nI j)) 9 := co_dec (N := 256) (P := fun j => onF 9 0 (nI j) = some (bc (nI j)) ∧ rg (bc (nI j)) 9) (by decide +kernel) hj
theorem e160 {a : Int32} (h : rg a 256) (σ : St) : sp_160 a σ = rt (bc a) σ := by
  obtain ⟨j, hj, rfl⟩ := rg_of h (by omega)
  unfold sp_160
  exact onF_lp 9 0 (nI j) _ (on_dec hj).1 FU (by show 9 ≤ 5000; omega)
theorem bc_rg {a : Int32} (h : rg a 256) : rg (bc a) 9 := by
  obtain ⟨j, hj, rfl⟩ := rg_of h (by omega)
  exact (on_dec hj).2
theorem and_rg {a : Int32} (h : rg a 256) (b : Int32) : rg (a &&& b) 256 := by
  obtain ⟨j, hj, rfl⟩ := rg_of h (by omega)
  have e : nI j &&& 255 = nI j := by rw [pk_andN (by omega) 8 rfl, Nat.mod_eq_of_lt hj]
  have e2 : nI j &&& b = (nI j &&& b) &&& 255 := by rw [Int32.and_assoc, Int32.and_comm b, ← Int32.and_assoc, e]
  rw [e2]
  exact rg_vp.mp (pk_andIn _ 8 rfl (by omega))
/-- known faults of the secret car at a test -/
def kn (σ : St) (i : Nat) : Int32 := if σ 35 i ≤ 0 then 0 else σ 45 (σ 35 i - 1).toNatClampNeg
def mi (σ : St) (x i : Nat) : Int32 := if 0 ≤ tx σ x i then (kn σ i &&& (σ 32 i ^^^ (-1))) &&& σ 42 (tx σ x i * 4 + 1).toNatClampNeg else 0
section
variable {σ : St} {v g t m n x s b w : Nat}
theorem Wf.e61 (H : Wf σ v g t m n x s b w) {i : Nat} (hi : i < n) : sp_61 (nI i) σ = rt (bI (¬ σ 35 i ≤ 0)) σ := by
  unfold sp_61
  simp only [mb_t (H.i80 hi), H.icl hi, mb_T, true_or, or_true, rt_bI, it_not]
/-- a visitor -/
theorem Wf.vis (H : Wf σ v g t m n x s b w) {i : Nat} (hi : i < n) : (σ 35 i = 0 ∧ σ 68 i = -1) ∨ ∃ q, q < s ∧ σ 35 i = nI (q + 1) ∧ σ 68 i = nI q := by
  have hs := H.s2
  obtain ⟨q, hq, e⟩ := rg_of (H.i35 hi) (by omega)
  have h68 := H.i68 hi
  cases q with
  | zero => exact Or.inl ⟨e, by rw [h68, e]; rfl⟩
  | succ q => exact Or.inr ⟨q, by omega, e, by rw [h68, e, nI_pred]⟩
theorem Wf.e60 (H : Wf σ v g t m n x s b w) {i : Nat} (hi : i < n) : sp_60 (nI i) σ = rt (kn σ i) σ := by
  have hs := H.s2
  unfold sp_60 kn
  simp only [H.e61 hi, bn_rt, bI_i0, it_not, mb_t (H.i80 hi), H.icl hi]
  rcases H.vis hi with ⟨e, _⟩ | ⟨q, hq, e, _⟩
  · rw [if_pos (by rw [e]; decide), if_pos (by rw [e]; decide)]
  · have h0 : ¬ σ 35 i ≤ 0 := by rw [e]; exact nI_nle (by omega) (by omega)
    rw [if_neg h0, if_neg h0, mb_t]
    rw [e, nI_pred]
    exact vp_in_nI (by omega) (by omega)
theorem Wf.knrg (H : Wf σ v g t m n x s b w) {i : Nat} (hi : i < n) : rg (kn σ i) 256 := by
  have hs := H.s2
  unfold kn
  rcases H.vis hi with ⟨e, _⟩ | ⟨q, hq, e, _⟩
  · rw [if_pos (by rw [e]; decide)]
    decide
  · rw [if_neg (by rw [e]; exact nI_nle (by omega) (by omega)), e, nI_pred, nI_cl (by omega)]
    exact H.ds q hq
theorem r14 : rg (1 : Int32) 4 := by decide
theorem Wf.e86 (H : Wf σ v g t m n x s b w) {i : Nat} (hi : i < n) : sp_86 (nI i) σ = rt (mi σ x i) σ := by
  unfold sp_86 mi
  simp only [mb_t (H.i80 hi), H.icl hi, H.e40, bn_rt, H.e60 hi]
  by_cases h : 0 ≤ tx σ x i
  · obtain ⟨h6, h7, hk⟩ := H.txp h
    simp only [if_pos h, e41 (hk 1 r14).1, bn_rt]
  · simp only [if_neg h]
theorem Wf.e176 (H : Wf σ v g t m n x s b w) {i : Nat} (hi : i < n) : sp_176 (nI i) σ = rt (mi σ x i) σ := by
  have hs := H.s2
  unfold sp_176 mi kn
  simp only [mb_t (H.i80 hi), H.icl hi, H.e150, bn_rt, H.a61, H.a77, H.a67, H.a76, Int32.mul_comm 4]
  rcases H.vis hi with ⟨e, f⟩ | ⟨q, hq, e, f⟩
  · rw [if_pos (show σ 68 i < 0 by rw [f]; decide), if_pos (show σ 35 i ≤ 0 by rw [e]; decide), Int32.zero_and, Int32.zero_and]
    split <;> rfl
  · rw [if_neg (show ¬ σ 68 i < 0 by rw [f]; exact nI_pos (by omega)), if_neg (show ¬ σ 35 i ≤ 0 by rw [e]; exact nI_nle (by omega) (by omega))]
    by_cases h : 0 ≤ tx σ x i
    · obtain ⟨h6, h7, hk⟩ := H.txp h
      have e6 : vp_in (σ 68 i) 6 := by rw [f]; exact vp_in_nI (by omega) (by omega)
      rw [if_pos h, if_pos h, mb_t e6, mb_t (hk 1 r14).2, e, nI_pred, f]
    · rw [if_neg h, if_neg h]
theorem Wf.mirg (H : Wf σ v g t m n x s b w) {i : Nat} (hi : i < n) : rg (mi σ x i) 256 := by
  unfold mi
  split
  · exact and_rg (and_rg (H.knrg hi) _) _
  · decide
end
def own (c1 c2 c3 c4 : Prop) [Decidable c1] [Decidable c2] [Decidable c3] [Decidable c4] : Int32 := (if c1 then 6 else 0) + (if c2 then 2 else 0) + (if c3 then 4 else 0) + (if c4 then 1 else 0)
def pt (σ : St) (m n x i : Nat) : Int32 := 10 * bc (mi σ x i) + if σ 34 i = 1 then 0 else own (ul σ x i = 1) (qkP σ i) (ov σ n i = true) (shP σ m i)
theorem own_rg (c1 c2 c3 c4 : Prop) [Decidable c1] [Decidable c2] [Decidable c3] [Decidable c4] : rg (own c1 c2 c3 c4) 14 := by
  unfold own
  by_cases h1 : c1 <;> by_cases h2 : c2 <;> by_cases h3 : c3 <;> by_cases h4 : c4 <;> simp only [h1, h2, h3, h4, if_true, if_false] <;> decide
section
variable {σ : St} {v g t m n x s b w : Nat}
theorem Wf.ap01 (H : Wf σ v g t m n x s b w) (i : Nat) : σ 34 i = 0 ∨ σ 34 i = 1 := by
  obtain ⟨y, hy, e⟩ := rg_of (H.dz i).1 (by omega)
  rw [e]
  rcases (show y = 0 ∨ y = 1 by omega) with rfl | rfl
  · exact Or.inl rfl
  · exact Or.inr rfl
theorem Wf.e85 (H : Wf σ v g t m n x s b w) {i : Nat} (hi : i < n) : sp_85 (nI i) σ = rt (pt σ m n x i) σ := by
  unfold sp_85 pt
  simp only [H.e86 hi, bn_rt, e59, mb_t (H.i80 hi), H.icl hi]
  rcases H.ap01 i with e | e
  · rw [e, if_neg (show ¬ (0 : Int32) = 1 by decide), if_neg (show ¬ (0 : Int32) = 1 by decide)]
    unfold own
    simp only [H.e58 hi, bn_rt, bI_i0]
    by_cases h1 : ul σ x i = 1 <;> (first | simp only [if_pos h1] | simp only [if_neg h1]) <;> simp only [H.e54 hi, bn_rt, bI_i0] <;> by_cases h2 : qkP σ i <;> (first | simp only [if_pos h2] | simp only [if_neg h2]) <;> simp only [H.e55 hi, bn_rt, bI_i0] <;> by_cases h3 : ov σ n i = true <;> (first | simp only [if_pos h3] | simp only [if_neg h3]) <;> simp only [H.e57 hi, bn_rt, bI_i0] <;> by_cases h4 : shP σ m i <;> (first | simp only [if_pos h4] | simp only [if_neg h4]) <;> simp only [Int32.add_assoc]
  · rw [e, if_pos rfl, if_pos rfl, Int32.add_zero]
theorem Wf.e175b (H : Wf σ v g t m n x s b w) {i : Nat} (hi : i < n) (y : Int32) : lp_175_58 (nI i) y σ = rt (10 * bc (mi σ x i) + if σ 34 i = 1 then 0 else y) σ := by
  unfold lp_175_58
  simp only [mb_t (H.i80 hi), H.icl hi, H.a71, H.e176 hi, bn_rt, e160 (H.mirg hi)]
  rcases H.ap01 i with e | e
  · rw [e, if_pos rfl, if_neg (show ¬ (0 : Int32) = 1 by decide), Int32.add_comm]
  · rw [e, if_neg (show ¬ (1 : Int32) = 0 by decide), if_pos rfl, Int32.add_comm]
theorem Wf.e175 (H : Wf σ v g t m n x s b w) {i : Nat} (hi : i < n) : sp_175 (nI i) σ = rt (pt σ m n x i) σ := by
  unfold sp_175 pt own
  rw [H.e154 hi, bn_rt]
  by_cases h1 : ul σ x i = 1 <;> (first | simp only [if_pos h1] | simp only [if_neg h1]) <;> simp only [H.e165 hi, bn_rt, bI_i0] <;> by_cases h2 : qkP σ i <;> (first | simp only [if_pos h2] | simp only [if_neg h2]) <;> simp only [H.e166 hi, bn_rt, bI_i0] <;> by_cases h3 : ov σ n i = true <;> (first | simp only [if_pos h3] | simp only [if_neg h3]) <;> simp only [H.e167 hi, bn_rt, bI_i0] <;> by_cases h4 : shP σ m i <;> (first | simp only [if_pos h4] | simp only [if_neg h4]) <;> simp only [H.e175b hi]
theorem Wf.ptrg (H : Wf σ v g t m n x s b w) {i : Nat} (hi : i < n) : ∃ p, p ≤ 93 ∧ pt σ m n x i = nI p := by
  obtain ⟨q, hq, e⟩ := rg_of (bc_rg (H.mirg hi)) (by omega)
  unfold pt
  rw [e, show (10 : Int32) = nI 10 from rfl, pk_mul]
  split
  · exact ⟨10 * q, by omega, by rw [Int32.add_zero]⟩
  · obtain ⟨y, hy, f⟩ := rg_of (own_rg (ul σ x i = 1) (qkP σ i) (ov σ n i = true) (shP σ m i)) (by omega)
    rw [f, nI_add]
    exact ⟨10 * q + y, by omega, rfl⟩
end
theorem pr_20 : Pr_20 Inv := by
  intro a σ hI
  obtain ⟨v, g, t, m, n, x, s, b, w, H⟩ := inv_wf hI
  have H1 := H.ft 1
  by_cases ha : rg a n
  · obtain ⟨i, hi, rfl⟩ := rg_of ha (by have := H.n2; omega)
    refine P2_of (r := pt σ m n x i) (σ1 := σ) (σ2 := σ) ?_ ?_ hI
    · unfold sp_84
      simp only [H.q1n, bn_rt, if_bI ha, H.e85 hi]
    · show sp_174 (nI i) σ = _
      unfold sp_174
      simp only [H.qn, bn_rt, if_bI ha, H.e175 hi]
  · refine p2_b1 hI ?_ ?_
    · unfold sp_84
      simp only [H.q1n, bn_rt, bI_i0, if_neg ha, e2_1]
    · show sp_174 a (fT 1 σ) = _
      unfold sp_174
      simp only [H1.qn, bn_rt, bI_i0, if_neg ha, e125_1]
