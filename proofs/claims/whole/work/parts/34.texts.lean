/-! the text in force, verdicts; pairs: verdict, unlike -/
theorem mb_T (t : MR) : mb True t = t := mb_t trivial
theorem rt_ite (c : Prop) [Decidable c] (a b : Int32) (σ : St) : rt (if c then a else b) σ = if c then rt a σ else rt b σ := by split <;> rfl
theorem r01 {r : Int32} (h : r = 0 ∨ r = 1) (σ : St) : (if r = 0 then rt 0 σ else rt 1 σ) = rt r σ := by
  rcases h with rfl | rfl
  · rfl
  · rfl
def txF (sn : Nat → Int32) (d : Int32) : Nat → Int32
  | 0 => -1
  | k + 1 => if d < sn k then txF sn d k else nI k
theorem txF_cs (sn : Nat → Int32) (d : Int32) : ∀ k, txF sn d k = -1 ∨ ∃ j, j < k ∧ txF sn d k = nI j
  | 0 => Or.inl rfl
  | k + 1 => by
    show (if d < sn k then txF sn d k else nI k) = -1 ∨ ∃ j, j < k + 1 ∧ (if d < sn k then txF sn d k else nI k) = nI j
    by_cases h : d < sn k
    · rw [if_pos h]
      rcases txF_cs sn d k with e | ⟨j, hj, e⟩
      · exact Or.inl e
      · exact Or.inr ⟨j, by omega, e⟩
    · rw [if_neg h]
      exact Or.inr ⟨k, by omega, rfl⟩
theorem e40l {σ : St} (d : Int32) : ∀ (k n : Nat), k ≤ 6 → k < n → lp_40_7 n d (nI k - 1) σ = rt (txF (σ 39) d k) σ
  | 0, n + 1, _, _ => by
    rw [lp_40_7, if_pos (show nI 0 - 1 < 0 by decide)]
    rfl
  | k + 1, n + 1, h6, hn => by
    show _ = rt (if d < σ 39 k then txF (σ 39) d k else nI k) σ
    rw [nI_pred, lp_40_7, if_neg (nI_pos (by omega)), mb_t (vp_in_nI (show k < 6 by omega) (by omega)), nI_cl (by omega)]
    by_cases h : d < σ 39 k
    · rw [if_pos h, if_pos h, ← Int32.sub_eq_add_neg, e40l d k n (by omega) (by omega)]
    · rw [if_neg h, if_neg h]
  | 0, 0, _, h => absurd h (by omega)
  | _ + 1, 0, _, h => absurd h (by omega)
theorem txF_fol (sn : Nat → Int32) (d : Int32) : ∀ k, fol (fun k g => if d < sn k then g else nI k) 0 k (-1) = txF sn d k
  | 0 => rfl
  | k + 1 => by
    rw [fol_last, txF_fol sn d k, Nat.zero_add]
    rfl
section
variable {σ : St} {v g t m n x s b w : Nat}
theorem Wf.e40 (H : Wf σ v g t m n x s b w) (d : Int32) : sp_40 d σ = rt (txF (σ 39) d x) σ := by
  unfold sp_40
  rw [H.x1]
  exact e40l d x FU H.x2 (FU_big (by have := H.x2; omega))
theorem Wf.e150 (H : Wf σ v g t m n x s b w) (d : Int32) : sp_150 d σ = rt (txF (σ 39) d x) σ := by
  unfold sp_150
  have hx := H.x2
  rw [← txF_fol]
  refine cloop (fun n i g => lp_150_4 n d g (nI i) σ) (fun k g => if d < σ 39 k then g else nI k) (fun g => rt g σ) x ?_ ?_ x 0 FU _ (by omega) (FU_big (by omega))
  · intro n g
    show lp_150_4 (n + 1) d g (nI x) σ = _
    rw [lp_150_4, H.mx, if_pos (nI_le (Nat.le_refl x) (by omega))]
  · intro n i g hi
    show lp_150_4 (n + 1) d g (nI i) σ = lp_150_4 n d _ (nI (i + 1)) σ
    rw [lp_150_4, H.mx, if_neg (nI_ge hi (by omega)), mb_t (vp_in_nI (show i < 7 by omega) (by omega)), nI_cl (by omega), nI_1, H.a73]
    by_cases h : d < σ 39 i
    · rw [if_pos h, if_pos h]
    · rw [if_neg h, if_neg h]
/-- a text in force has a place -/
theorem Wf.txp (H : Wf σ v g t m n x s b w) {d : Int32} (h : 0 ≤ txF (σ 39) d x) : vp_in (txF (σ 39) d x) 6 ∧ vp_in (txF (σ 39) d x) 7 ∧ ∀ k, rg k 4 → vp_in (txF (σ 39) d x * 4 + k) 24 ∧ vp_in (txF (σ 39) d x * 4 + k) 28 := by
  have hx := H.x2
  rcases txF_cs (σ 39) d x with e | ⟨j, hj, e⟩
  · rw [e] at h
    exact absurd h (by decide)
  · rw [e]
    refine ⟨vp_in_nI (by omega) (by omega), vp_in_nI (by omega) (by omega), ?_⟩
    intro k hk
    obtain ⟨q, hq, rfl⟩ := rg_of hk (by omega)
    rw [show (4 : Int32) = nI 4 from rfl, pk_mul, nI_add]
    exact ⟨vp_in_nI (by omega) (by omega), vp_in_nI (by omega) (by omega)⟩
theorem e41 {a k : Int32} (h : vp_in (a * 4 + k) 24) : sp_41 a k σ = rt (σ 42 (a * 4 + k).toNatClampNeg) σ := by
  unfold sp_41
  rw [mb_t h]
end
def brF (l r lb gp : Int32) : Int32 := if r ≤ l then (if r < lb then 0 else if r * 100 < (100 - gp) * l then 0 else 1) else (if l < lb then 0 else if l * 100 < (100 - gp) * r then 0 else 1)
theorem brF_01 (l r lb gp : Int32) : brF l r lb gp = 0 ∨ brF l r lb gp = 1 := by
  unfold brF
  split <;> split <;> (try split) <;> simp
theorem e44 {σ : St} {a : Int32} (ha : vp_in a 6) (l r : Int32) : sp_44 a l r σ = rt (brF l r (σ 40 a.toNatClampNeg) (σ 41 a.toNatClampNeg)) σ := by
  unfold sp_44 brF
  simp only [mb_t ha, mb_T, true_or, or_true]
  by_cases h : r ≤ l
  · simp only [if_pos h, rt_ite]
  · simp only [if_neg h, rt_ite]
/-- the kind of a test's vehicle -/
abbrev kd (σ : St) (i : Nat) : Int32 := σ 15 (σ 24 i).toNatClampNeg
abbrev tx (σ : St) (x i : Nat) : Int32 := txF (σ 39) (σ 26 i) x
def ps (σ : St) (x i : Nat) : Int32 := if 0 ≤ tx σ x i then (if σ 42 (tx σ x i * 4 + kd σ i).toNatClampNeg &&& σ 32 i = 0 then (if kd σ i = 3 then 1 else brF (σ 30 i) (σ 31 i) (σ 40 (tx σ x i).toNatClampNeg) (σ 41 (tx σ x i).toNatClampNeg)) else 0) else 1
theorem ps_01 (σ : St) (x i : Nat) : ps σ x i = 0 ∨ ps σ x i = 1 := by
  unfold ps
  split
  · split
    · split
      · exact Or.inr rfl
      · exact brF_01 _ _ _ _
    · exact Or.inl rfl
  · exact Or.inr rfl
section
variable {σ : St} {v g t m n x s b w : Nat}
theorem Wf.e43 (H : Wf σ v g t m n x s b w) {i : Nat} (hi : i < n) : sp_43 (nI i) σ = rt (ps σ x i) σ := by
  unfold sp_43 ps
  simp only [mb_t (H.i80 hi), H.icl hi, H.e40, bn_rt]
  by_cases h : 0 ≤ tx σ x i
  · obtain ⟨h6, h7, hk⟩ := H.txp h
    simp only [if_pos h, mb_t (H.iv hi).2, e41 (hk _ (H.ik hi)).1, bn_rt, mb_T, true_or, or_true, e44 h6, r01 (brF_01 _ _ _ _), rt_ite]
  · simp only [if_neg h, mb_T, or_true]
theorem Wf.e152 (H : Wf σ v g t m n x s b w) {i : Nat} (hi : i < n) : sp_152 (nI i) σ = rt (ps σ x i) σ := by
  unfold sp_152 ps
  simp only [mb_t (H.i80 hi), H.icl hi, H.e150, bn_rt, H.a61, H.a59, H.a50, H.a67, H.a76, H.a66, H.a65, H.a74, H.a75, mb_t (H.iv hi).2, mb_T, true_or, or_true, Int32.mul_comm 4, Int32.mul_comm 100]
  by_cases h : 0 ≤ tx σ x i
  · obtain ⟨h6, h7, hk⟩ := H.txp h
    rw [Int32.and_comm (σ 42 _)]
    simp only [if_pos h, mb_t (hk _ (H.ik hi)).2, mb_t h7]
    unfold brF
    by_cases h2 : σ 31 i ≤ σ 30 i
    · simp only [if_pos h2, rt_ite]
    · simp only [if_neg h2, rt_ite]
  · simp only [if_neg h]
/-- unlike -/
def ul (σ : St) (x i : Nat) : Int32 := if σ 33 i = ps σ x i then 0 else if σ 33 i = 0 then 2 else 1
theorem Wf.p01 (H : Wf σ v g t m n x s b w) {i : Nat} (hi : i < n) : σ 33 i = 0 ∨ σ 33 i = 1 := by
  obtain ⟨y, hy, e⟩ := rg_of (H.i33 hi) (by omega)
  rw [e]
  rcases (show y = 0 ∨ y = 1 by omega) with rfl | rfl
  · exact Or.inl rfl
  · exact Or.inr rfl
theorem Wf.e46 (H : Wf σ v g t m n x s b w) {i : Nat} (hi : i < n) : sp_46 (nI i) σ = rt (ul σ x i) σ := by
  unfold sp_46 ul
  simp only [mb_t (H.i80 hi), H.icl hi, H.e43 hi, bn_rt]
  rcases H.p01 hi with e | e <;> rcases ps_01 σ x i with f | f <;> simp only [e, f] <;> rfl
theorem Wf.e154 (H : Wf σ v g t m n x s b w) {i : Nat} (hi : i < n) : sp_154 (nI i) σ = rt (ul σ x i) σ := by
  unfold sp_154 ul
  simp only [mb_t (H.i80 hi), H.icl hi, H.e152 hi, bn_rt, H.a70]
  rcases H.p01 hi with e | e <;> rcases ps_01 σ x i with f | f <;> simp only [e, f] <;> rfl
theorem Wf.e58 (H : Wf σ v g t m n x s b w) {i : Nat} (hi : i < n) : sp_58 (nI i) σ = rt (bI (ul σ x i = 1)) σ := by
  unfold sp_58 ul
  simp only [mb_t (H.i80 hi), H.icl hi, H.e43 hi, bn_rt, mb_T, true_or, or_true]
  rcases H.p01 hi with e | e <;> rcases ps_01 σ x i with f | f <;> simp only [e, f] <;> rfl
end
theorem pr_11 : Pr_11 Inv := by
  intro a σ hI
  obtain ⟨v, g, t, m, n, x, s, b, w, H⟩ := inv_wf hI
  have H1 := H.ft 1
  by_cases ha : rg a n
  · obtain ⟨i, hi, rfl⟩ := rg_of ha (by have := H.n2; omega)
    refine P2_of (r := ps σ x i) (σ1 := σ) (σ2 := σ) ?_ ?_ hI
    · unfold sp_42
      simp only [H.q1n, bn_rt, if_bI ha, H.e43 hi, r01 (ps_01 σ x i)]
    · show sp_151 (nI i) σ = _
      unfold sp_151
      simp only [H.qn, bn_rt, if_bI ha, H.e152 hi, r01 (ps_01 σ x i)]
  · refine p2_b1 hI ?_ ?_
    · unfold sp_42
      simp only [H.q1n, bn_rt, bI_i0, if_neg ha, e2_1]
    · show sp_151 a (fT 1 σ) = _
      unfold sp_151
      simp only [H1.qn, bn_rt, bI_i0, if_neg ha, e125_1]
theorem pr_12 : Pr_12 Inv := by
  intro a σ hI
  obtain ⟨v, g, t, m, n, x, s, b, w, H⟩ := inv_wf hI
  have H1 := H.ft 1
  by_cases ha : rg a n
  · obtain ⟨i, hi, rfl⟩ := rg_of ha (by have := H.n2; omega)
    refine P2_of (r := ul σ x i) (σ1 := σ) (σ2 := σ) ?_ ?_ hI
    · unfold sp_45
      simp only [H.q1n, bn_rt, if_bI ha, H.e46 hi]
    · show sp_153 (nI i) σ = _
      unfold sp_153
      simp only [H.qn, bn_rt, if_bI ha, H.e154 hi]
  · refine p2_b1 hI ?_ ?_
    · unfold sp_45
      simp only [H.q1n, bn_rt, bI_i0, if_neg ha, e2_1]
    · show sp_153 a (fT 1 σ) = _
      unfold sp_153
      simp only [H1.qn, bn_rt, bI_i0, if_neg ha, e125_1]
