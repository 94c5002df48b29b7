/-! pairs: tell, found, secret, feed, tester, garage, as -/
theorem e123_in {x lo hi : Int32} (h0 : ¬ x < lo) (h1 : ¬ hi < x) (σ : St) : sp_123 x lo hi σ = rt 1 σ := by
  unfold sp_123
  rw [if_neg h0, if_neg h1, mb_t b11]
theorem e123_lo {x lo hi : Int32} (h0 : x < lo) (σ : St) : sp_123 x lo hi σ = rt 0 σ := by
  unfold sp_123
  rw [if_pos h0, mb_t b00]
theorem e123_hi {x lo hi : Int32} (h1 : hi < x) (σ : St) : sp_123 x lo hi σ = rt 0 σ := by
  unfold sp_123
  by_cases h0 : x < lo
  · rw [if_pos h0, mb_t b00]
  · rw [if_neg h0, if_pos h1, mb_t b00]
theorem i_nlt {a b : Int32} : ¬ a < b ↔ b ≤ a := Int32.not_lt
theorem i_nle {a b : Int32} : ¬ a ≤ b ↔ b < a := Int32.not_le
theorem pr_30 : Pr_30 Inv := by
  intro a σ hI
  obtain ⟨hS, hA, hT, hX, v, g, t, m, n, x, s, bb, w, hC, hD⟩ := id hI
  obtain ⟨c1, c2, c3, c4, c5, c6, c7, c8, cw⟩ := id hC
  obtain ⟨q0, q1, q2, q3, q4, q5, q6, q7, q8, q9, q10, q11⟩ := id hS
  have hwm : σ 12 10 = nI w := q10.trans cw.1
  unfold sp_117 sp_191
  simp only [bn_id, e2_4, e125_4]
  by_cases h : w < 8
  · have h1 : σ 0 12 < 8 := by rw [cw.1]; exact (nI_ltI (by omega) (show 8 < 2 ^ 31 by omega)).mpr h
    have h2 : vp_in (σ 0 12) 8 := by rw [cw.1]; exact vp_in_nI h (by omega)
    have h3 : vp_in (σ 12 10) 8 := by rw [hwm]; exact vp_in_nI h (by omega)
    rw [if_pos h1, mb_t h2, cw.1, nI_cl (by omega), nI_1]
    refine P2_of (σ2 := up (up (up (up σ 13 w a) 0 12 (nI (w + 1))) 79 w a) 12 10 (nI (w + 1))) rfl ?_ ?_
    · have h4 : ¬ (up (up σ 13 w a) 0 12 (nI (w + 1))) 12 10 = 8 := by
        show ¬ σ 12 10 = nI 8
        rw [hwm, nI_eq (by omega) (by omega)]
        omega
      rw [if_neg h4]
      show mb (vp_in (σ 12 10) 8) (rt (σ 12 10 + 1) (up (up _ 79 (σ 12 10).toNatClampNeg a) 12 10 (σ 12 10 + 1))) = _
      rw [mb_t h3, hwm, nI_cl (by omega), nI_1]
    · obtain ⟨x1, x2, x3, x4, x5, x6, x7, x8⟩ := hX
      refine ⟨⟨q0, q1, q2, q3, q4, q5, q6, q7, q8, q9, rfl, q11⟩, hA, hT, ⟨x1, x2, x3, x4, x5, x6, ?_, x8⟩, v, g, t, m, n, x, s, bb, w + 1, ⟨c1, c2, c3, c4, c5, c6, c7, c8, rfl, by omega⟩, hD⟩
      show upd (σ 79) w a = upd (σ 13) w a
      rw [x7]
  · have h1 : ¬ σ 0 12 < 8 := by rw [cw.1]; exact fun z => h ((nI_ltI (by omega) (show 8 < 2 ^ 31 by omega)).mp z)
    rw [if_neg h1]
    have h2 : fT 4 σ 12 10 = 8 := by
      show σ 12 10 = nI 8
      rw [hwm, nI_eq (by omega) (by omega)]
      omega
    exact P2_of rfl (by rw [if_pos h2]) (inv_find hI 4)
theorem pr_33 : Pr_33 Inv := by
  intro a σ hI
  obtain ⟨hS, hA, hT, hX, hr⟩ := id hI
  unfold sp_121 sp_194
  simp only [bn_id, e2_1, e125_1]
  by_cases h : a < 1
  · simp only [if_pos h, e123_lo h, bn_rt]
    exact p2_f1 hI
  · simp only [if_neg h]
    by_cases h5 : a ≤ 5
    · simp only [if_pos h5, e123_in h (i_nlt.mpr h5), bn_rt]
      have hv : vp_in a 6 := by
        rw [rg_vp]
        have e1 := i_nlt.mp h
        rw [Int32.le_iff_toInt_le] at e1 h5
        have e2 : (1 : Int32).toInt = 1 := rfl
        have e3 : (5 : Int32).toInt = 5 := rfl
        exact ⟨by omega, by omega⟩
      rw [mb_t hv]
      refine P2_of rfl ?_ hI
      rw [if_neg (by decide), mb_t hv]
      show rt (σ 80 _) σ = _
      rw [hX.2.2.2.2.2.2.2]
    · simp only [if_neg h5, e123_hi (i_nle.mp h5), bn_rt]
      exact p2_f1 hI
theorem pr_8 : Pr_8 Inv := by
  intro a σ hI
  obtain ⟨hS, hA, hT, hX, v, g, t, m, n, x, s, b, w, hC, hD⟩ := id hI
  obtain ⟨c1, c2, c3, c4, c5, c6, c7, cb, cw⟩ := id hC
  obtain ⟨q0, q1, q2, q3, q4, q5, q6, q7, q8, q9, q10⟩ := id hS
  have hbm : σ 12 9 = nI b := q9.trans cb.1
  unfold sp_26 sp_142
  simp only [show ∀ σ, sp_1 a 256 σ = rt (bI (rg a 256)) σ from e1 a (n := 256) (by omega), show ∀ σ, sp_123 a 0 255 σ = rt (bI (rg a 256)) σ from e123 a (n := 255) (by omega), bn_rt, bn_id, bI_i0, e2_1, e2_4, e125_1, e125_4]
  by_cases ha : rg a 256
  · simp only [if_pos ha]
    by_cases h : b < 60
    · have h1 : σ 4 1 < 60 := by rw [cb.1]; exact (nI_ltI (by omega) (show 60 < 2 ^ 31 by omega)).mpr h
      have h2 : vp_in (σ 4 1) 60 := by rw [cb.1]; exact vp_in_nI h (by omega)
      have h3 : vp_in (σ 12 9) 60 := by rw [hbm]; exact vp_in_nI h (by omega)
      rw [if_pos h1]
      unfold sp_27
      rw [mb_t h2, cb.1, nI_cl (by omega), nI_1]
      refine P2_of (σ2 := up (up (up (up σ 38 b a) 4 1 (nI (b + 1))) 78 b a) 12 9 (nI (b + 1))) rfl ?_ ?_
      · have h4 : ¬ (up (up σ 38 b a) 4 1 (nI (b + 1))) 12 9 = 60 := by
          show ¬ σ 12 9 = nI 60
          rw [hbm, nI_eq (by omega) (by omega)]
          omega
        rw [if_neg h4]
        show mb (vp_in (σ 12 9) 60) (rt (σ 12 9 + 1) (up (up _ 78 (σ 12 9).toNatClampNeg a) 12 9 (σ 12 9 + 1))) = _
        rw [mb_t h3, hbm, nI_cl (by omega), nI_1]
      · obtain ⟨x1, x2, x3, x4, x5, x6, x7, x8⟩ := hX
        refine ⟨⟨q0, q1, q2, q3, q4, q5, q6, q7, q8, rfl, q10⟩, hA, hT, ⟨x1, x2, x3, x4, x5, ?_, x7, x8⟩, v, g, t, m, n, x, s, b + 1, w, ⟨c1, c2, c3, c4, c5, c6, c7, ⟨rfl, by omega⟩, cw⟩, hD⟩
        show upd (σ 78) b a = upd (σ 38) b a
        rw [x6]
    · have h1 : ¬ σ 4 1 < 60 := by rw [cb.1]; exact fun z => h ((nI_ltI (by omega) (show 60 < 2 ^ 31 by omega)).mp z)
      rw [if_neg h1]
      have h2 : fT 4 σ 12 9 = 60 := by
        show σ 12 9 = nI 60
        rw [hbm, nI_eq (by omega) (by omega)]
        omega
      exact P2_of rfl (by rw [if_pos h2]) (inv_find hI 4)
  · simp only [if_neg ha]
    exact p2_f1 hI
