/-! pairs: rule, error -/
theorem sv2 : (sV 2).getD (0 : Int32).toNatClampNeg 0 = 3650 ∧ (sV 2).getD (1 : Int32).toNatClampNeg 0 = 1000 ∧ (sV 2).getD (2 : Int32).toNatClampNeg 0 = 200 := by decide
theorem n20 : ¬ (2 : Int32) = 0 := by decide
theorem n21 : ¬ (2 : Int32) = 1 := by decide
theorem i1_le {y K : Int32} {N : Nat} (hK : K.toInt = (N : Int)) (h1 : ¬ y < 1) (h2 : ¬ K < y) : 1 ≤ y.toInt ∧ y.toInt ≤ (N : Int) := by
  have z1 := Int32.le_iff_toInt_le.mp (Int32.not_lt.mp h1)
  have z2 := Int32.le_iff_toInt_le.mp (Int32.not_lt.mp h2)
  have a1 : (1 : Int32).toInt = 1 := rfl
  omega
theorem ru0 {σ : St} (hI : Inv σ) {y : Int32} (h : 1 ≤ y.toInt ∧ y.toInt ≤ 3650) : Inv (up (up (up (up σ 46 0 y) 12 11 y) 12 12 (σ 12 12)) 12 13 (σ 12 13)) := by
  obtain ⟨v, g, t, m, n, x, s, b, w, H⟩ := inv_wf hI
  have h8 := inv_8 hI
  have h10 := inv_10 hI
  refine wf_inv (v := v) (g := g) (t := t) (m := m) (n := n) (x := x) (s := s) (b := b) (w := w) ?_ h8 h10
  obtain ⟨hS, hA, hT, hY, hC, hD⟩ := id H
  obtain ⟨q0, q1, q2, q3, q4, q5, q6, q7, q8, q9, q10, q11, q12, q13⟩ := hS
  obtain ⟨d1, d2, d3, d4, d5, d6, d7, d8, d9⟩ := hD
  refine ⟨⟨q0, q1, q2, q3, q4, q5, q6, q7, q8, q9, q10, rfl, q12, q13⟩, hA, hT, hY, hC, d1, d2, d3, d4, d5, d6, ⟨h, d7.2⟩, d8, d9⟩
theorem ru1 {σ : St} (hI : Inv σ) {y : Int32} (h : 1 ≤ y.toInt ∧ y.toInt ≤ 1000) : Inv (up (up (up (up σ 46 1 y) 12 11 (σ 12 11)) 12 12 y) 12 13 (σ 12 13)) := by
  obtain ⟨v, g, t, m, n, x, s, b, w, H⟩ := inv_wf hI
  have h8 := inv_8 hI
  have h10 := inv_10 hI
  refine wf_inv (v := v) (g := g) (t := t) (m := m) (n := n) (x := x) (s := s) (b := b) (w := w) ?_ h8 h10
  obtain ⟨hS, hA, hT, hY, hC, hD⟩ := id H
  obtain ⟨q0, q1, q2, q3, q4, q5, q6, q7, q8, q9, q10, q11, q12, q13⟩ := hS
  obtain ⟨d1, d2, d3, d4, d5, d6, d7, d8, d9⟩ := hD
  refine ⟨⟨q0, q1, q2, q3, q4, q5, q6, q7, q8, q9, q10, q11, rfl, q13⟩, hA, hT, hY, hC, d1, d2, d3, d4, d5, d6, ⟨d7.1, h, d7.2.2⟩, d8, d9⟩
theorem ru2 {σ : St} (hI : Inv σ) {y : Int32} (h : 1 ≤ y.toInt ∧ y.toInt ≤ 200) : Inv (up (up (up (up σ 46 2 y) 12 11 (σ 12 11)) 12 12 (σ 12 12)) 12 13 y) := by
  obtain ⟨v, g, t, m, n, x, s, b, w, H⟩ := inv_wf hI
  have h8 := inv_8 hI
  have h10 := inv_10 hI
  refine wf_inv (v := v) (g := g) (t := t) (m := m) (n := n) (x := x) (s := s) (b := b) (w := w) ?_ h8 h10
  obtain ⟨hS, hA, hT, hY, hC, hD⟩ := id H
  obtain ⟨q0, q1, q2, q3, q4, q5, q6, q7, q8, q9, q10, q11, q12, q13⟩ := hS
  obtain ⟨d1, d2, d3, d4, d5, d6, d7, d8, d9⟩ := hD
  refine ⟨⟨q0, q1, q2, q3, q4, q5, q6, q7, q8, q9, q10, q11, q12, rfl⟩, hA, hT, hY, hC, d1, d2, d3, d4, d5, d6, ⟨d7.1, d7.2.1, h⟩, d8, d9⟩
theorem v3_0 : vp_in (0 : Int32) 3 := rg_vp.mpr (by decide)
theorem v3_1 : vp_in (1 : Int32) 3 := rg_vp.mpr (by decide)
theorem v3_2 : vp_in (2 : Int32) 3 := rg_vp.mpr (by decide)
theorem pr_18 : Pr_18 Inv := by
  intro a y σ hI
  obtain ⟨v, g, t, m, n, x, s, b, w, H⟩ := inv_wf hI
  have r0 := H.r0
  have r1 := H.r1
  have r2 := H.r2
  obtain ⟨s0, s1, s2⟩ := sv2
  by_cases ha : rg a 3
  · by_cases h1 : y < 1
    · refine p2_b1 hI ?_ ?_
      · unfold sp_80 sp_81
        simp only [e1_3, bn_rt, if_bI ha, if_pos h1, mb_T, true_or, if_true, e2_1]
      · show sp_172 a y (fT 1 σ) = _
        unfold sp_172
        simp only [e123_2, bn_rt, if_bI ha, e123_lo h1, if_true, e125_1, ite_self]
    · obtain ⟨j, hj, rfl⟩ := rg_of ha (by omega)
      rcases (show j = 0 ∨ j = 1 ∨ j = 2 by omega) with rfl | rfl | rfl
      · have ha : rg (0 : Int32) 3 := ha
        show P2 (sp_80 0 y σ) (fun σ1 => sp_172 0 y σ1) Inv
        by_cases h2 : 3650 < y
        · refine p2_b1 hI ?_ ?_
          · unfold sp_80 sp_81
            simp only [e1_3, bn_rt, if_bI ha, if_neg h1, mb_t v3_0, s0, if_pos h2, mb_T, true_or, if_true, e2_1]
          · show sp_172 0 y (fT 1 σ) = _
            unfold sp_172
            simp only [e123_2, bn_rt, if_bI ha, e123_hi h2, if_true, e125_1]
        · refine P2_of (r := σ 46 0) (σ1 := up σ 46 0 y) (σ2 := up (up (up (up σ 46 0 y) 12 11 y) 12 12 (σ 12 12)) 12 13 (σ 12 13)) ?_ ?_ (ru0 hI (i1_le (K := 3650) (N := 3650) rfl h1 h2))
          · unfold sp_80 sp_81 sp_82
            simp only [e1_3, bn_rt, if_bI ha, if_neg h1, mb_t v3_0, s0, if_neg h2, mb_T, or_true, eq_false n10, if_false]
            rfl
          · show sp_172 0 y (up σ 46 0 y) = _
            unfold sp_172 lp_172_47 lp_172_75 lp_172_91 lp_172_108
            simp only [e123_2, bn_rt, if_bI ha, e123_in h1 h2, if_true, eq_false n10, eq_false n01, eq_false (show ¬ (0 : Int32) = 2 by decide), if_false]
            show rt (σ 12 11) _ = rt (σ 46 0) _
            rw [r0]
            rfl
      · have ha : rg (1 : Int32) 3 := ha
        show P2 (sp_80 1 y σ) (fun σ1 => sp_172 1 y σ1) Inv
        by_cases h2 : 1000 < y
        · refine p2_b1 hI ?_ ?_
          · unfold sp_80 sp_81
            simp only [e1_3, bn_rt, if_bI ha, if_neg h1, mb_t v3_1, s1, if_pos h2, mb_T, true_or, if_true, e2_1]
          · show sp_172 1 y (fT 1 σ) = _
            unfold sp_172
            simp only [e123_2, bn_rt, if_bI ha, e123_hi h2, if_true, eq_false n10, if_false, e125_1]
        · refine P2_of (r := σ 46 1) (σ1 := up σ 46 1 y) (σ2 := up (up (up (up σ 46 1 y) 12 11 (σ 12 11)) 12 12 y) 12 13 (σ 12 13)) ?_ ?_ (ru1 hI (i1_le (K := 1000) (N := 1000) rfl h1 h2))
          · unfold sp_80 sp_81 sp_82
            simp only [e1_3, bn_rt, if_bI ha, if_neg h1, mb_t v3_1, s1, if_neg h2, mb_T, or_true, eq_false n10, if_false]
            rfl
          · show sp_172 1 y (up σ 46 1 y) = _
            unfold sp_172 lp_172_47 lp_172_75 lp_172_91 lp_172_108
            simp only [e123_2, bn_rt, if_bI ha, e123_in h1 h2, if_true, eq_false n10, eq_false (show ¬ (1 : Int32) = 2 by decide), if_false]
            show rt (σ 12 12) _ = rt (σ 46 1) _
            rw [r1]
            rfl
      · have ha : rg (2 : Int32) 3 := ha
        show P2 (sp_80 2 y σ) (fun σ1 => sp_172 2 y σ1) Inv
        by_cases h2 : 200 < y
        · refine p2_b1 hI ?_ ?_
          · unfold sp_80 sp_81
            simp only [e1_3, bn_rt, if_bI ha, if_neg h1, mb_t v3_2, s2, if_pos h2, mb_T, true_or, if_true, e2_1]
          · show sp_172 2 y (fT 1 σ) = _
            unfold sp_172
            simp only [e123_2, bn_rt, if_bI ha, e123_hi h2, if_true, eq_false n20, eq_false n21, if_false, e125_1]
        · refine P2_of (r := σ 46 2) (σ1 := up σ 46 2 y) (σ2 := up (up (up (up σ 46 2 y) 12 11 (σ 12 11)) 12 12 (σ 12 12)) 12 13 y) ?_ ?_ (ru2 hI (i1_le (K := 200) (N := 200) rfl h1 h2))
          · unfold sp_80 sp_81 sp_82
            simp only [e1_3, bn_rt, if_bI ha, if_neg h1, mb_t v3_2, s2, if_neg h2, mb_T, or_true, eq_false n10, if_false]
            rfl
          · show sp_172 2 y (up σ 46 2 y) = _
            unfold sp_172 lp_172_47 lp_172_75 lp_172_91 lp_172_108
            simp only [e123_2, bn_rt, if_bI ha, e123_in h1 h2, if_true, eq_false n20, eq_false n21, eq_false n10, if_false]
            show rt (σ 12 13) _ = rt (σ 46 2) _
            rw [r2]
            rfl
  · refine p2_b1 hI ?_ ?_
    · unfold sp_80 sp_81
      simp only [e1_3, bn_rt, bI_i0, if_neg ha, mb_T, true_or, if_true, e2_1]
    · show sp_172 a y (fT 1 σ) = _
      unfold sp_172
      simp only [e123_2, bn_rt, bI_i0, if_neg ha, e125_1]
/-- weights of the drawn tests -/
def erS (ch wr : Nat → Int32) (k : Nat) (p : Int32 × Int32) : Int32 × Int32 := if ch k = 0 then p else (p.1 + 10000 / ch k, p.2 + wr k * (10000 / ch k))
def erF (ch wr : Nat → Int32) (n : Nat) : Int32 × Int32 := fol (erS ch wr) 0 n (0, 0)
theorem erF_ok {ch wr : Nat → Int32} (hc : ∀ i, rg (ch i) 101) (hw : ∀ i, rg (wr i) 2) : ∀ n, n ≤ 80 → ∃ A B, A ≤ 10000 * n ∧ B ≤ 10000 * n ∧ erF ch wr n = (nI A, nI B) ∧ (A = 0 ↔ dr ch n = 0)
  | 0, _ => ⟨0, 0, by omega, by omega, rfl, by constructor <;> intro _ <;> rfl⟩
  | n + 1, h => by
    obtain ⟨A, B, h1, h2, h3, h4⟩ := erF_ok hc hw n (by omega)
    have e : erF ch wr (n + 1) = erS ch wr n (erF ch wr n) := by
      unfold erF
      rw [fol_last, Nat.zero_add]
    have ed : dr ch (n + 1) = dr ch n + (if ch n = 0 then 0 else 1) := rfl
    rw [e, h3, ed]
    unfold erS
    by_cases hz : ch n = 0
    · rw [if_pos hz, if_pos hz]
      exact ⟨A, B, by omega, by omega, rfl, by rw [Nat.add_zero]; exact h4⟩
    · rw [if_neg hz, if_neg hz]
      obtain ⟨c, hc1, hc2⟩ := rg_of (hc n) (by omega)
      obtain ⟨y, hy1, hy2⟩ := rg_of (hw n) (by omega)
      have hc0 : c ≠ 0 := fun z => hz (by rw [hc2, z]; rfl)
      have hd : 10000 / c ≤ 10000 := Nat.div_le_self _ _
      have hp : 0 < 10000 / c := Nat.div_pos (by omega) (by omega)
      have hy3 : y * (10000 / c) ≤ 10000 := by
        rcases (show y = 0 ∨ y = 1 by omega) with rfl | rfl <;> omega
      refine ⟨A + 10000 / c, B + y * (10000 / c), by omega, by omega, ?_, by omega⟩
      rw [hc2, hy2, show (10000 : Int32) = nI 10000 from rfl, pk_div (by omega) (by omega) (by omega), pk_mul, nI_add, nI_add]
section
variable {σ : St} {v g t m n x s b w : Nat}
theorem Wf.e114 (H : Wf σ v g t m n x s b w) : sp_114 σ = if (erF (σ 36) (σ 37) n).1 ≤ 0 then rt (-1) σ else mb (¬ (erF (σ 36) (σ 37) n).1 = 0) (rt ((erF (σ 36) (σ 37) n).2 * 1000 / (erF (σ 36) (σ 37) n).1) σ) := by
  unfold sp_114
  have hn := H.n2
  refine cloop (fun f i (p : Int32 × Int32) => lp_114_6 f p.1 p.2 (nI i) σ) (erS (σ 36) (σ 37)) (fun p => if p.1 ≤ 0 then rt (-1) σ else mb (¬ p.1 = 0) (rt (p.2 * 1000 / p.1) σ)) n ?_ ?_ n 0 FU (0, 0) (by omega) (FU_big (by omega))
  · intro f p
    show lp_114_6 (f + 1) p.1 p.2 (nI n) σ = _
    rw [lp_114_6, H.n1, if_pos (nI_le (Nat.le_refl n) (by omega))]
  · intro f i p hi
    show lp_114_6 (f + 1) p.1 p.2 (nI i) σ = lp_114_6 f (erS (σ 36) (σ 37) i p).1 (erS (σ 36) (σ 37) i p).2 (nI (i + 1)) σ
    rw [lp_114_6, H.n1, if_neg (nI_ge hi (by omega))]
    have hz := le0 (H.dz i).2.1
    unfold erS
    simp only [mb_t (H.i80 hi), H.icl hi, nI_1]
    by_cases h : σ 36 i = 0
    · simp only [if_pos h, if_pos (hz.mpr h)]
    · simp only [if_neg h, if_neg (fun z => h (hz.mp z)), mb_t h]
theorem Wf.e188 (H : Wf σ v g t m n x s b w) : lp_188_19 FU 0 0 0 σ = mb (¬ (erF (σ 36) (σ 37) n).1.toInt64 = 0) (rt ((((Int32.toInt64 1000) * (erF (σ 36) (σ 37) n).2.toInt64) / (erF (σ 36) (σ 37) n).1.toInt64).toInt32) σ) := by
  have hn := H.n2
  refine cloop (fun f i (p : Int32 × Int32) => lp_188_19 f p.1 p.2 (nI i) σ) (erS (σ 36) (σ 37)) (fun p => mb (¬ p.1.toInt64 = 0) (rt ((((Int32.toInt64 1000) * p.2.toInt64) / p.1.toInt64).toInt32) σ)) n ?_ ?_ n 0 FU (0, 0) (by omega) (FU_big (by omega))
  · intro f p
    show lp_188_19 (f + 1) p.1 p.2 (nI n) σ = _
    rw [lp_188_19, H.mn, if_pos (nI_le (Nat.le_refl n) (by omega))]
  · intro f i p hi
    show lp_188_19 (f + 1) p.1 p.2 (nI i) σ = lp_188_19 f (erS (σ 36) (σ 37) i p).1 (erS (σ 36) (σ 37) i p).2 (nI (i + 1)) σ
    rw [lp_188_19, H.mn, if_neg (nI_ge hi (by omega))]
    unfold erS
    simp only [mb_t (H.i80 hi), H.icl hi, nI_1, H.a69, H.a72, Int32.add_zero, ite_self]
    by_cases h : σ 36 i = 0
    · simp only [if_pos h]
    · simp only [if_neg h, mb_t h]
      obtain ⟨y, hy, e⟩ := rg_of (H.dz i).2.2.1 (by omega)
      rcases (show y = 0 ∨ y = 1 by omega) with rfl | rfl
      · rw [e, if_pos (show nI 0 = 0 from rfl), show nI 0 = 0 from rfl, Int32.zero_mul, Int32.add_zero]
      · rw [e, if_neg (show ¬ nI 1 = 0 by decide), show nI 1 = 1 from rfl, Int32.one_mul]
end
theorem pr_28 : Pr_28 Inv := by
  intro σ hI
  obtain ⟨v, g, t, m, n, x, s, b, w, H⟩ := inv_wf hI
  have hn := H.n2
  obtain ⟨A, B, hA, hB, he, hz⟩ := erF_ok (fun i => (H.dz i).2.1) (fun i => (H.dz i).2.2.1) n H.n2
  have hdr := dr_le (f := σ 36) n
  have hdn := H.mdr.trans H.dn
  by_cases h0 : A = 0
  · subst h0
    have hd : dr (σ 36) n = 0 := hz.mp rfl
    rw [hd] at hdn
    refine p2_b2 hI ?_ ?_
    · unfold sp_113
      rw [H.e114, he]
      simp only [if_pos (show nI 0 ≤ 0 by decide), bn_rt, if_neg (show ¬ (0 : Int32) ≤ -1 by decide), e2_2]
    · show sp_188 (fT 2 σ) = _
      unfold sp_188
      simp only [if_pos (show fT 2 σ 12 8 = 0 from hdn), e125_2, bn_rt]
  · have hd : dr (σ 36) n ≠ 0 := fun z => h0 (hz.mpr z)
    have e1' : nI B * 1000 / nI A = nI (B * 1000 / A) := by
      rw [show (1000 : Int32) = nI 1000 from rfl, pk_mul, pk_div (by omega) (by omega) (by omega)]
    have hq : B * 1000 / A < 2 ^ 31 := Nat.lt_of_le_of_lt (Nat.div_le_self _ _) (by omega)
    have e2' : (((Int32.toInt64 1000) * (nI B).toInt64) / (nI A).toInt64).toInt32 = nI (B * 1000 / A) := by
      rw [nI_l (by omega), nI_l (by omega), show Int32.toInt64 1000 = lN 1000 from rfl, lN_mul, pk_lDiv (by omega) (by omega) (by omega), lN_i, Nat.mul_comm]
    have e3' : ¬ (nI A).toInt64 = 0 := by
      rw [nI_l (by omega), show (0 : Int64) = lN 0 from rfl, lN_eq (by omega) (by omega)]
      exact h0
    refine P2_of (r := nI (B * 1000 / A)) (σ1 := σ) (σ2 := σ) ?_ ?_ hI
    · unfold sp_113
      rw [H.e114, he]
      simp only [if_neg (nI_nle (show 0 < A by omega) (by omega)), mb_t (nI_ne0 (show 0 < A by omega) (by omega)), bn_rt, e1', if_pos (nI_pos' hq)]
    · show sp_188 σ = _
      unfold sp_188
      have hne : ¬ σ 12 8 = 0 := by
        rw [hdn]
        exact nI_ne0 (by omega) (by omega)
      rw [if_neg hne, H.e188, he]
      show mb (¬ (nI A).toInt64 = 0) (rt ((((Int32.toInt64 1000) * (nI B).toInt64) / (nI A).toInt64).toInt32) σ) = _
      rw [mb_t e3', e2']
