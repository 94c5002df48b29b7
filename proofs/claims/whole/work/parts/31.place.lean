/-! where a tester is; pairs: at, as -/
def plS (mv tg sn : Nat → Int32) (t d : Int32) (k : Nat) (g : Int32) : Int32 := if mv k = t then (if d < sn k then g else tg k) else g
def plc (hm mv tg sn : Nat → Int32) (m : Nat) (t d : Int32) : Int32 := fol (plS mv tg sn t d) 0 m (hm t.toNatClampNeg)
theorem e14 {σ : St} {m : Nat} (hm : σ 2 8 = nI m) (h30 : m ≤ 30) {t : Int32} (ht : vp_in t 8) (d : Int32) : sp_14 t d σ = rt (plc (σ 20) (σ 21) (σ 22) (σ 23) m t d) σ := by
  unfold sp_14
  rw [mb_t ht]
  refine cloop (fun n i g => lp_14_10 n t d g (nI i) σ) (plS (σ 21) (σ 22) (σ 23) t d) (fun g => rt g σ) m ?_ ?_ m 0 FU _ (by omega) (FU_big (by omega))
  · intro n g
    show lp_14_10 (n + 1) t d g (nI m) σ = _
    rw [lp_14_10]
    rw [hm, if_pos (nI_le (Nat.le_refl m) (by omega))]
  · intro n i g hi
    show lp_14_10 (n + 1) t d g (nI i) σ = lp_14_10 n t d _ (nI (i + 1)) σ
    have hv := vp_in_nI (show i < 30 by omega) (show 30 < 2 ^ 31 by omega)
    rw [lp_14_10]
    rw [hm, if_neg (nI_ge hi (by omega)), mb_t hv, mb_t hv, mb_t hv, nI_cl (by omega), nI_1]
    unfold plS
    by_cases h1 : σ 21 i = t
    · rw [if_pos h1, if_pos h1]
      by_cases h2 : d < σ 23 i
      · rw [if_pos h2, if_pos h2]
      · rw [if_neg h2, if_neg h2]
    · rw [if_neg h1, if_neg h1]
theorem e135 {σ : St} {m : Nat} (hm : σ 12 3 = nI m) (h30 : m ≤ 30) {t : Int32} (ht : vp_in t 8) (d : Int32) : sp_135 t d σ = rt (plc (σ 55) (σ 56) (σ 57) (σ 58) m t d) σ := by
  unfold sp_135
  rw [mb_t ht]
  refine cloop (fun n i g => lp_135_10 n t d g (nI i) σ) (plS (σ 56) (σ 57) (σ 58) t d) (fun g => rt g σ) m ?_ ?_ m 0 FU _ (by omega) (FU_big (by omega))
  · intro n g
    show lp_135_10 (n + 1) t d g (nI m) σ = _
    rw [lp_135_10]
    rw [hm, if_pos (nI_le (Nat.le_refl m) (by omega))]
  · intro n i g hi
    show lp_135_10 (n + 1) t d g (nI i) σ = lp_135_10 n t d _ (nI (i + 1)) σ
    have hv := vp_in_nI (show i < 30 by omega) (show 30 < 2 ^ 31 by omega)
    rw [lp_135_10]
    rw [hm, if_neg (nI_ge hi (by omega)), mb_t hv, mb_t hv, mb_t hv, nI_cl (by omega), nI_1]
    unfold plS
    by_cases h1 : σ 56 i = t
    · rw [if_pos h1, if_pos h1]
      by_cases h2 : d < σ 58 i
      · rw [if_pos h2, if_pos h2]
      · rw [if_neg h2, if_neg h2]
    · rw [if_neg h1, if_neg h1]
theorem vp_le {x : Int32} {n k : Nat} (h : rg x n) (hk : n ≤ k) : vp_in x k := rg_vp.mpr (rg_le h hk)
theorem pr_5 : Pr_5 Inv := by
  intro a d σ hI
  obtain ⟨hS, hA, hT, hX, v, g, t, m, n, x, s, b, w, hC, hD⟩ := id hI
  obtain ⟨c1, cg, ct, cm, c4⟩ := id hC
  obtain ⟨q0, q1, q2, q3, q4⟩ := id hS
  have htm : σ 12 2 = nI t := q2.trans ct.1
  have hmm : σ 12 3 = nI m := q3.trans cm.1
  unfold sp_15 sp_136
  rw [ct.1, e1 a (by omega), bn_rt]
  simp only [bn_id, e1_d, e124, bn_rt, e2_1, e125_1, bI_i0]
  by_cases ha : rg a t
  · simp only [if_pos ha]
    by_cases hd : rg d 10000
    · simp only [if_pos hd]
      rw [e14 cm.1 cm.2 (vp_le ha ct.2)]
      refine P2_of rfl ?_ hI
      rw [e134 htm ct.2, bn_rt, bI_i0, if_pos ha, e135 hmm cm.2 (vp_le ha ct.2), hA.2.2.2.2.2.1, hA.2.2.2.2.2.2.1, hA.2.2.2.2.2.2.2.1, hA.2.2.2.2.2.2.2.2]
    · simp only [if_neg hd]
      exact P2_of rfl (by rw [e134 (σ := fT 1 σ) htm ct.2, bn_rt, bI_i0, if_pos ha]) (inv_find hI 1)
  · simp only [if_neg ha]
    exact P2_of rfl (by rw [e134 (σ := fT 1 σ) htm ct.2, bn_rt, bI_i0, if_neg ha]) (inv_find hI 1)
theorem pr_19 : Pr_19 Inv := by
  intro a c σ hI
  obtain ⟨hS, hA, hT, hX, v, g, t, m, n, x, s, b, w, hC, hD⟩ := id hI
  obtain ⟨c1, cg, ct, cm, cn', c6⟩ := id hC
  obtain ⟨q0, q1, q2, q3, q4, q5⟩ := id hS
  have hnm : σ 12 4 = nI n := q4.trans cn'.1
  obtain ⟨t1, t2, t3, t4, t5, t6, t7, t8, t9, t10, t11, t12, t13⟩ := id hT
  obtain ⟨d1, d2, d3, d4, d5⟩ := id hD
  unfold sp_83 sp_173
  rw [cn'.1, e1 a (by omega), bn_rt]
  simp only [bn_id, e1_2, e123_1, bn_rt, e2_1, e125_1, bI_i0]
  by_cases ha : rg a n
  · simp only [if_pos ha]
    by_cases hc : rg c 2
    · simp only [if_pos hc]
      have h80 := vp_le ha cn'.2
      obtain ⟨i, hi, rfl⟩ := rg_of ha (by omega)
      obtain ⟨j, hj, rfl⟩ := rg_of hc (by omega)
      rw [mb_t h80, mb_t h80, nI_cl (by omega)]
      have hfin : Inv (up (up σ 34 i (nI j)) 71 i (nI j)) := by
        refine ⟨hS, hA, ⟨t1, t2, t3, t4, t5, t6, t7, t8, t9, t10, t11, ?_, t13⟩, hX, v, g, t, m, n, x, s, b, w, hC, d1, d2, d3, ?_, d5⟩
        · show upd (σ 71) i (nI j) = upd (σ 34) i (nI j)
          rw [t12]
        · intro k
          obtain ⟨z1, z2, z3, z4⟩ := d4 k
          refine ⟨?_, z2, z3, fun hk => ⟨?_, (z4 hk).2⟩⟩
          · show rg (upd (σ 34) i (nI j) k) 2
            unfold upd
            split
            · exact hc
            · exact z1
          · show upd (σ 34) i (nI j) k = 0
            unfold upd
            rw [if_neg (by omega)]
            exact (z4 hk).1
      have hz := (d4 i).1
      obtain ⟨y, hy, hy2⟩ := rg_of hz (by omega)
      rw [hy2]
      refine P2_of (σ2 := up (up σ 34 i (nI j)) 71 i (nI j)) rfl ?_ hfin
      rw [e140 (σ := up σ 34 i (nI j)) hnm cn'.2, bn_rt, bI_i0, if_pos ha, mb_t h80]
      show (if σ 71 i = 0 then _ else _) = _
      rw [t12, hy2]
      rcases (show y = 0 ∨ y = 1 by omega) with rfl | rfl <;> rcases (show j = 0 ∨ j = 1 by omega) with rfl | rfl
      · rw [if_pos (show nI 0 = 0 from rfl), if_neg (show ¬ nI 0 = 1 by decide), mb_t h80, mb_t (Or.inl trivial)]; rfl
      · rw [if_pos (show nI 0 = 0 from rfl), if_pos (show nI 1 = 1 from rfl), mb_t h80, mb_t (Or.inr trivial)]; rfl
      · rw [if_neg (show ¬ nI 1 = 0 by decide), if_neg (show ¬ nI 0 = 1 by decide), mb_t h80, mb_t (Or.inl trivial)]; rfl
      · rw [if_neg (show ¬ nI 1 = 0 by decide), if_pos (show nI 1 = 1 from rfl), mb_t h80, mb_t (Or.inr trivial)]; rfl
    · simp only [if_neg hc]
      exact P2_of rfl (by rw [e140 (σ := fT 1 σ) hnm cn'.2, bn_rt, bI_i0, if_pos ha]) (inv_find hI 1)
  · simp only [if_neg ha]
    exact P2_of rfl (by rw [e140 (σ := fT 1 σ) hnm cn'.2, bn_rt, bI_i0, if_neg ha]) (inv_find hI 1)
