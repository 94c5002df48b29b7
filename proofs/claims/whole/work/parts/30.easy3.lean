/-! pairs: secret, tester, garage, as -/
theorem pr_23 : Pr_23 Inv := by
  intro a σ hI
  obtain ⟨hS, hA, hT, hX, v, g, t, m, n, x, s, b, w, hC, hD⟩ := id hI
  obtain ⟨c1, c2, c3, c4, c5, c6, cs, cb⟩ := id hC
  obtain ⟨q0, q1, q2, q3, q4, q5, q6, q7⟩ := id hS
  have hsm : σ 12 6 = nI s := q6.trans cs.1
  unfold sp_93 sp_181
  simp only [bn_id, e2_1, e2_4, e125_1, e125_4]
  by_cases h : a < 1
  · simp only [if_pos h, e123_lo h, bn_rt]
    exact p2_f1 hI
  · simp only [if_neg h]
    by_cases h5 : a < 256
    · have h6 : ¬ 255 < a := by
        rw [Int32.lt_iff_toInt_lt] at h5 ⊢
        have e2 : (255 : Int32).toInt = 255 := rfl
        have e3 : (256 : Int32).toInt = 256 := rfl
        omega
      have hag : rg a 256 := by
        have e1 := i_nlt.mp h
        rw [Int32.le_iff_toInt_le] at e1
        rw [Int32.lt_iff_toInt_lt] at h5
        have e2 : (1 : Int32).toInt = 1 := rfl
        have e3 : (256 : Int32).toInt = 256 := rfl
        exact ⟨by omega, by omega⟩
      simp only [if_pos h5, e123_in h h6, bn_rt, if_neg (show ¬ (1 : Int32) = 0 by decide)]
      by_cases hs : s < 6
      · have h1 : σ 9 3 < 6 := by rw [cs.1]; exact (nI_ltI (by omega) (show 6 < 2 ^ 31 by omega)).mpr hs
        have h2 : vp_in (σ 9 3) 6 := by rw [cs.1]; exact vp_in_nI hs (by omega)
        have h3 : vp_in (σ 12 6) 6 := by rw [hsm]; exact vp_in_nI hs (by omega)
        rw [if_pos h1]
        unfold sp_94
        rw [mb_t h2, cs.1, nI_cl (by omega), nI_1, show nI (s + 1) - 1 = nI s from nI_pred s]
        refine P2_of (σ2 := up (up (up (up σ 45 s a) 9 3 (nI (s + 1))) 77 s a) 12 6 (nI (s + 1))) rfl ?_ ?_
        · have h4 : ¬ (up (up σ 45 s a) 9 3 (nI (s + 1))) 12 6 = 6 := by
            show ¬ σ 12 6 = nI 6
            rw [hsm, nI_eq (by omega) (by omega)]
            omega
          rw [if_neg h4]
          show mb (vp_in (σ 12 6) 6) (rt (σ 12 6 + 1 - 1) (up (up _ 77 (σ 12 6).toNatClampNeg a) 12 6 (σ 12 6 + 1))) = _
          rw [mb_t h3, hsm, nI_cl (by omega), nI_1, show nI (s + 1) - 1 = nI s from nI_pred s]
        · obtain ⟨x1, x2, x3, x4, x5, x6⟩ := hX
          obtain ⟨d1, d2, d3, d4, d5, d6, d7, d8, d9⟩ := hD
          refine ⟨⟨q0, q1, q2, q3, q4, q5, rfl, q7⟩, hA, hT, ⟨x1, x2, x3, x4, ?_, x6⟩, v, g, t, m, n, x, s + 1, b, w, ⟨c1, c2, c3, c4, c5, c6, ⟨rfl, by omega⟩, cb⟩, d1, d2, ?_, d4, d5, ?_, d7, fun j hj => d8 j (by omega), d9⟩
          · show upd (σ 77) s a = upd (σ 45) s a
            rw [x5]
          · intro i hi
            obtain ⟨z1, z2, z3, z4⟩ := d3 i hi
            exact ⟨z1, z2, rg_le z3 (by omega), z4⟩
          · exact upd_new (P := fun z => rg z 256) d6 hag
      · have h1 : ¬ σ 9 3 < 6 := by rw [cs.1]; exact fun z => hs ((nI_ltI (by omega) (show 6 < 2 ^ 31 by omega)).mp z)
        rw [if_neg h1]
        have h2 : fT 4 σ 12 6 = 6 := by
          show σ 12 6 = nI 6
          rw [hsm, nI_eq (by omega) (by omega)]
          omega
        exact P2_of rfl (by rw [if_pos h2]) (inv_find hI 4)
    · have h6 : 255 < a := by
        rw [Int32.lt_iff_toInt_lt] at h5 ⊢
        have e2 : (255 : Int32).toInt = 255 := rfl
        have e3 : (256 : Int32).toInt = 256 := rfl
        omega
      simp only [if_neg h5, e123_hi h6, bn_rt]
      exact p2_f1 hI
/-- the model's checks against its counts -/
theorem e127 {σ : St} {v : Nat} (hv : σ 12 0 = nI v) (h : v ≤ 24) (a : Int32) : sp_127 a σ = rt (bI (rg a v)) σ := by
  unfold sp_127
  rw [hv, e123c a (by omega), bn_rt, mb_t (bI_01 _)]
theorem e132 {σ : St} {g : Nat} (hg : σ 12 1 = nI g) (h : g ≤ 6) (a : Int32) : sp_132 a σ = rt (bI (rg a g)) σ := by
  unfold sp_132
  rw [hg, e123c a (by omega), bn_rt, mb_t (bI_01 _)]
theorem e134 {σ : St} {t : Nat} (ht : σ 12 2 = nI t) (h : t ≤ 8) (a : Int32) : sp_134 a σ = rt (bI (rg a t)) σ := by
  unfold sp_134
  rw [ht, e123c a (by omega), bn_rt, mb_t (bI_01 _)]
theorem e140 {σ : St} {n : Nat} (hn : σ 12 4 = nI n) (h : n ≤ 80) (a : Int32) : sp_140 a σ = rt (bI (rg a n)) σ := by
  unfold sp_140
  rw [hn, e123c a (by omega), bn_rt, mb_t (bI_01 _)]
theorem pr_3 : Pr_3 Inv := by
  intro a σ hI
  obtain ⟨hS, hA, hT, hX, v, g, t, m, n, x, s, b, w, hC, hD⟩ := id hI
  obtain ⟨c1, cg, ct, c4⟩ := id hC
  obtain ⟨q0, q1, q2, q3⟩ := id hS
  have hgm : σ 12 1 = nI g := q1.trans cg.1
  have htm : σ 12 2 = nI t := q2.trans ct.1
  unfold sp_9 sp_131
  rw [cg.1, e1 a (by omega), bn_rt]
  simp only [bn_id, e2_1, e2_4, e125_1, e125_4, bI_i0]
  by_cases ha : rg a g
  · simp only [if_pos ha]
    by_cases h : t < 8
    · have h1 : σ 2 4 < 8 := by rw [ct.1]; exact (nI_ltI (by omega) (show 8 < 2 ^ 31 by omega)).mpr h
      have h2 : vp_in (σ 2 4) 8 := by rw [ct.1]; exact vp_in_nI h (by omega)
      have h3 : vp_in (σ 12 2) 8 := by rw [htm]; exact vp_in_nI h (by omega)
      rw [if_pos h1]
      unfold sp_10
      rw [mb_t h2, ct.1, nI_cl (by omega), nI_1, show nI (t + 1) - 1 = nI t from nI_pred t]
      refine P2_of (σ2 := up (up (up (up σ 20 t a) 2 4 (nI (t + 1))) 55 t a) 12 2 (nI (t + 1))) rfl ?_ ?_
      · rw [e132 (σ := up (up σ 20 t a) 2 4 (nI (t + 1))) hgm cg.2, bn_rt, bI_i0, if_pos ha]
        have h4 : ¬ (up (up σ 20 t a) 2 4 (nI (t + 1))) 12 2 = 8 := by
          show ¬ σ 12 2 = nI 8
          rw [htm, nI_eq (by omega) (by omega)]
          omega
        rw [if_neg h4]
        show mb (vp_in (σ 12 2) 8) (rt (σ 12 2 + 1 - 1) (up (up _ 55 (σ 12 2).toNatClampNeg a) 12 2 (σ 12 2 + 1))) = _
        rw [mb_t h3, htm, nI_cl (by omega), nI_1, show nI (t + 1) - 1 = nI t from nI_pred t]
      · obtain ⟨a1, a2, a3, a4, a5, a6, a7⟩ := hA
        obtain ⟨d1, d2, d3, d4⟩ := hD
        refine ⟨⟨q0, q1, rfl, q3⟩, ⟨a1, a2, a3, a4, a5, ?_, a7⟩, hT, hX, v, g, t + 1, m, n, x, s, b, w, ⟨c1, cg, ⟨rfl, by omega⟩, c4⟩, d1, ⟨?_, ?_, d2.2.2⟩, ?_, d4⟩
        · show upd (σ 55) t a = upd (σ 20) t a
          rw [a6]
        · exact upd_new (P := fun z => rg z g) d2.1 ha
        · intro i hi
          obtain ⟨z1, z2⟩ := d2.2.1 i hi
          exact ⟨rg_le z1 (by omega), z2⟩
        · intro i hi
          obtain ⟨⟨z1, z2, z3⟩, z4⟩ := d3 i hi
          exact ⟨⟨z1, rg_le z2 (by omega), z3⟩, z4⟩
    · have h1 : ¬ σ 2 4 < 8 := by rw [ct.1]; exact fun z => h ((nI_ltI (by omega) (show 8 < 2 ^ 31 by omega)).mp z)
      rw [if_neg h1]
      have h2 : fT 4 σ 12 2 = 8 := by
        show σ 12 2 = nI 8
        rw [htm, nI_eq (by omega) (by omega)]
        omega
      exact P2_of rfl (by rw [e132 (σ := fT 4 σ) hgm cg.2, bn_rt, bI_i0, if_pos ha, if_pos h2]) (inv_find hI 4)
  · simp only [if_neg ha]
    exact P2_of rfl (by rw [e132 (σ := fT 1 σ) hgm cg.2, bn_rt, bI_i0, if_neg ha]) (inv_find hI 1)
theorem pr_2 : Pr_2 Inv := by
  intro a c σ hI
  obtain ⟨hS, hA, hT, hX, v, g, t, m, n, x, s, b, w, hC, hD⟩ := id hI
  obtain ⟨c1, cg, c3⟩ := id hC
  obtain ⟨q0, q1, q2⟩ := id hS
  have hgm : σ 12 1 = nI g := q1.trans cg.1
  unfold sp_7 sp_130
  simp only [show ∀ σ, sp_1 a 1440 σ = rt (bI (rg a 1440)) σ from e1 a (n := 1440) (by omega), show ∀ σ, sp_123 a 0 1439 σ = rt (bI (rg a 1440)) σ from e123 a (n := 1439) (by omega), bn_rt, bn_id, bI_i0, e2_1, e2_4, e125_1, e125_4]
  by_cases ha : rg a 1440
  · simp only [if_pos ha]
    have e1 : (1440 : Int32).toInt = 1440 := rfl
    have ha1 : (a + 1).toInt = a.toInt + 1 := by
      obtain ⟨j, hj, rfl⟩ := rg_of ha (by omega)
      rw [nI_1, nI_toInt (by omega), nI_toInt (by omega)]
      omega
    by_cases hc : c ≤ a
    · have h1 : c < a + 1 := by
        rw [Int32.lt_iff_toInt_lt, ha1]
        rw [Int32.le_iff_toInt_le] at hc
        omega
      simp only [if_pos hc, e123_lo h1, bn_rt]
      exact p2_f1 hI
    · have h1 : ¬ c < a + 1 := by
        rw [Int32.lt_iff_toInt_lt, ha1]
        rw [Int32.le_iff_toInt_le] at hc
        omega
      simp only [if_neg hc]
      by_cases hd : c ≤ 1440
      · simp only [if_pos hd, e123_in h1 (i_nlt.mpr hd), bn_rt, if_neg (show ¬ (1 : Int32) = 0 by decide)]
        by_cases h : g < 6
        · have h1 : σ 2 2 < 6 := by rw [cg.1]; exact (nI_ltI (by omega) (show 6 < 2 ^ 31 by omega)).mpr h
          have h2 : vp_in (σ 2 2) 6 := by rw [cg.1]; exact vp_in_nI h (by omega)
          have h3 : vp_in (σ 12 1) 6 := by rw [hgm]; exact vp_in_nI h (by omega)
          rw [if_pos h1]
          unfold sp_8
          rw [mb_t h2, mb_t h2, cg.1, nI_cl (by omega), nI_1, show nI (g + 1) - 1 = nI g from nI_pred g]
          refine P2_of (σ2 := up (up (up (up (up (up σ 18 g a) 19 g c) 2 2 (nI (g + 1))) 53 g a) 54 g c) 12 1 (nI (g + 1))) rfl ?_ ?_
          · have h4 : ¬ (up (up (up σ 18 g a) 19 g c) 2 2 (nI (g + 1))) 12 1 = 6 := by
              show ¬ σ 12 1 = nI 6
              rw [hgm, nI_eq (by omega) (by omega)]
              omega
            rw [if_neg h4]
            show mb (vp_in (σ 12 1) 6) (mb (vp_in (σ 12 1) 6) (rt (σ 12 1 + 1 - 1) (up (up (up _ 53 (σ 12 1).toNatClampNeg a) 54 (σ 12 1).toNatClampNeg c) 12 1 (σ 12 1 + 1)))) = _
            rw [mb_t h3, mb_t h3, hgm, nI_cl (by omega), nI_1, show nI (g + 1) - 1 = nI g from nI_pred g]
          · obtain ⟨a1, a2, a3, a4, a5, a6⟩ := hA
            obtain ⟨d1, d2, d3⟩ := hD
            refine ⟨⟨q0, rfl, q2⟩, ⟨a1, a2, a3, ?_, ?_, a6⟩, hT, hX, v, g + 1, t, m, n, x, s, b, w, ⟨c1, ⟨rfl, by omega⟩, c3⟩, d1, ⟨fun i hi => rg_le (d2.1 i hi) (by omega), ?_, d2.2.2⟩, d3⟩
            · show upd (σ 53) g a = upd (σ 18) g a
              rw [a4]
            · show upd (σ 54) g c = upd (σ 19) g c
              rw [a5]
            · intro i hi
              obtain ⟨z1, z2, z3⟩ := d2.2.1 i hi
              exact ⟨z1, rg_le z2 (by omega), z3⟩
        · have h1 : ¬ σ 2 2 < 6 := by rw [cg.1]; exact fun z => h ((nI_ltI (by omega) (show 6 < 2 ^ 31 by omega)).mp z)
          rw [if_neg h1]
          have h2 : fT 4 σ 12 1 = 6 := by
            show σ 12 1 = nI 6
            rw [hgm, nI_eq (by omega) (by omega)]
            omega
          exact P2_of rfl (by rw [if_pos h2]) (inv_find hI 4)
      · simp only [if_neg hd, e123_hi (i_nle.mp hd), bn_rt]
        exact p2_f1 hI
  · simp only [if_neg ha]
    exact p2_f1 hI
