/-! pairs: rule, draw, error -/
theorem e1_3 (x : Int32) (σ : St) : sp_1 x 3 σ = rt (bI (rg x 3)) σ := e1 x (n := 3) (by omega) σ
theorem e123_2 (x : Int32) (σ : St) : sp_123 x 0 2 σ = rt (bI (rg x 3)) σ := e123 x (n := 2) (by omega) σ
theorem dr_congr {f h : Nat → Int32} : ∀ n, (∀ k, k < n → f k = h k) → dr f n = dr h n
  | 0, _ => rfl
  | n + 1, e => by
    show dr f n + (if f n = 0 then 0 else 1) = dr h n + (if h n = 0 then 0 else 1)
    rw [dr_congr n (fun k hk => e k (by omega)), e n (by omega)]
theorem dr_upd {f : Nat → Int32} {i : Nat} {c : Int32} (hf : f i = 0) (hc : ¬ c = 0) : ∀ n, i < n → dr (upd f i c) n = dr f n + 1
  | 0, h => absurd h (by omega)
  | n + 1, h => by
    show dr (upd f i c) n + (if upd f i c n = 0 then 0 else 1) = dr f n + (if f n = 0 then 0 else 1) + 1
    by_cases e : i = n
    · subst e
      have h1 : upd f i c i = c := if_pos rfl
      have h2 : dr (upd f i c) i = dr f i := dr_congr i (fun k hk => pk_un (by omega))
      rw [h1, if_neg hc, hf, if_pos rfl, h2]
    · have h1 : upd f i c n = f n := if_neg (fun z => e z.symm)
      rw [h1, dr_upd hf hc n (by omega)]
      omega
theorem dr_le {f : Nat → Int32} : ∀ n, dr f n ≤ n
  | 0 => Nat.le_refl _
  | n + 1 => by
    show dr f n + (if f n = 0 then 0 else 1) ≤ n + 1
    have := dr_le (f := f) n
    split <;> omega
theorem pr_27 : Pr_27 Inv := by
  intro a c r σ hI
  obtain ⟨v, g, t, m, n, x, s, b, w, H⟩ := inv_wf hI
  have H1 := H.ft 1
  have hn := H.n2
  by_cases ha : rg a n
  · by_cases h1 : c < 1
    · refine p2_b1 hI ?_ ?_
      · unfold sp_110
        simp only [H.q1n, bn_rt, if_bI ha, if_pos h1, e2_1]
      · show sp_187 a c r (fT 1 σ) = _
        unfold sp_187
        simp only [H1.qn, bn_rt, if_bI ha, e123_lo h1, if_true, e125_1]
    · by_cases h2 : 100 < c
      · refine p2_b1 hI ?_ ?_
        · unfold sp_110
          simp only [H.q1n, bn_rt, if_bI ha, if_neg h1, if_pos h2, e2_1]
        · show sp_187 a c r (fT 1 σ) = _
          unfold sp_187
          simp only [H1.qn, bn_rt, if_bI ha, e123_hi h2, if_true, e125_1]
      · by_cases hr : rg r 2
        · obtain ⟨i, hi, rfl⟩ := rg_of ha (by omega)
          have hcr : rg c 101 ∧ ¬ c = 0 := by
            have z1 := Int32.le_iff_toInt_le.mp (Int32.not_lt.mp h1)
            have z2 := Int32.le_iff_toInt_le.mp (Int32.not_lt.mp h2)
            have a1 : (1 : Int32).toInt = 1 := rfl
            have a2 : (100 : Int32).toInt = 100 := rfl
            refine ⟨⟨by omega, by omega⟩, ?_⟩
            rintro rfl
            exact absurd z1 (by decide)
          by_cases h0 : σ 36 i ≤ 0
          · have h36 : σ 36 i = 0 := (le0 (H.dz i).2.1).mp h0
            have h69 : up (up (up σ 36 i c) 37 i r) 3 15 (σ 3 15 + 1) 69 i ≤ 0 := by
              show σ 69 i ≤ 0
              rw [H.a69]
              exact h0
            have W : Wf (up (up (up (up (up (up σ 36 i c) 37 i r) 3 15 (σ 3 15 + 1)) 69 i c) 72 i r) 12 8 (up (up (up σ 36 i c) 37 i r) 3 15 (σ 3 15 + 1) 12 8 + 1)) v g t m n x s b w := by
              obtain ⟨hS, hA, hT, hY, hC, hD⟩ := id H
              obtain ⟨q0, q1, q2, q3, q4, q5, q6, q7, q8, q9⟩ := hS
              obtain ⟨t1, t2, t3, t4, t5, t6, t7, t8, t9, t10, t11, t12, t13⟩ := hT
              obtain ⟨d1, d2, d3, d4, d5, d6, d7, d8, d9⟩ := hD
              refine ⟨⟨q0, q1, q2, q3, q4, q5, q6, q7, ?_, q9⟩, hA, ⟨t1, t2, t3, t4, t5, t6, t7, t8, t9, ?_, t11, t12, ?_⟩, hY, hC, d1, d2, d3, ?_, d5, d6, d7, d8, ?_⟩
              · show σ 12 8 + 1 = σ 3 15 + 1
                rw [q8]
              · show upd (σ 69) i c = upd (σ 36) i c
                rw [t10]
              · show upd (σ 72) i r = upd (σ 37) i r
                rw [t13]
              · intro k
                obtain ⟨z1, z2, z3, z4⟩ := d4 k
                refine ⟨z1, ?_, ?_, fun hk => ⟨(z4 hk).1, (z4 hk).2.1, ?_⟩⟩
                · show rg (upd (σ 36) i c k) 101
                  unfold upd
                  split
                  · exact hcr.1
                  · exact z2
                · show rg (upd (σ 37) i r k) 2
                  unfold upd
                  split
                  · exact hr
                  · exact z3
                · show upd (σ 36) i c k = 0
                  unfold upd
                  rw [if_neg (by omega)]
                  exact (z4 hk).2.2
              · show σ 3 15 + 1 = nI (dr (upd (σ 36) i c) n)
                rw [d9, dr_upd h36 hcr.2 n hi, nI_1]
            have h8 := inv_8 hI
            have h10 := inv_10 hI
            refine P2_of (r := σ 3 15 + 1) (σ1 := up (up (up σ 36 i c) 37 i r) 3 15 (σ 3 15 + 1)) (σ2 := up (up (up (up (up (up σ 36 i c) 37 i r) 3 15 (σ 3 15 + 1)) 69 i c) 72 i r) 12 8 (up (up (up σ 36 i c) 37 i r) 3 15 (σ 3 15 + 1) 12 8 + 1)) ?_ ?_ (wf_inv W h8 h10)
            · unfold sp_110 sp_111 sp_112
              simp only [H.q1n, bn_rt, if_bI ha, if_neg h1, if_neg h2, e1_2, if_bI hr, mb_t (H.i80 hi), H.icl hi, if_pos h0, mb_T, true_or, if_true]
            · show sp_187 (nI i) c r (up (up (up σ 36 i c) 37 i r) 3 15 (σ 3 15 + 1)) = _
              have k2 : sp_140 (nI i) (up (up (up σ 36 i c) 37 i r) 3 15 (σ 3 15 + 1)) = rt (bI (rg (nI i) n)) (up (up (up σ 36 i c) 37 i r) 3 15 (σ 3 15 + 1)) := e140 (σ := up (up (up σ 36 i c) 37 i r) 3 15 (σ 3 15 + 1)) H.mn H.n2 _
              have k3 : up (up (up σ 36 i c) 37 i r) 3 15 (σ 3 15 + 1) 12 8 + 1 = σ 3 15 + 1 := by
                show σ 12 8 + 1 = σ 3 15 + 1
                rw [H.mdr]
              unfold sp_187
              obtain ⟨y, hy, rfl⟩ := rg_of hr (by omega)
              rcases (show y = 0 ∨ y = 1 by omega) with rfl | rfl
              · simp only [k2, bn_rt, if_bI ha, e123_in h1 h2, eq_false n10, if_false, e123_1, if_bI hr, mb_t (H.i80 hi), H.icl hi, if_pos h69, if_neg (show ¬ nI 0 = 1 by decide), mb_T, true_or]
                rw [k3]
                rfl
              · simp only [k2, bn_rt, if_bI ha, e123_in h1 h2, eq_false n10, if_false, e123_1, if_bI hr, mb_t (H.i80 hi), H.icl hi, if_pos h69, if_pos (show nI 1 = 1 from rfl), mb_T, or_true]
                rw [k3]
                rfl
          · have h69 : ¬ fT 3 σ 69 i ≤ 0 := by
              show ¬ σ 69 i ≤ 0
              rw [H.a69]
              exact h0
            refine p2_b3 hI ?_ ?_
            · unfold sp_110 sp_111
              simp only [H.q1n, bn_rt, if_bI ha, if_neg h1, if_neg h2, e1_2, if_bI hr, mb_t (H.i80 hi), H.icl hi, if_neg h0, mb_T, or_true, eq_false n10, if_false, e2_3]
            · show sp_187 (nI i) c r (fT 3 σ) = _
              unfold sp_187
              simp only [(H.ft 3).qn, bn_rt, if_bI ha, e123_in h1 h2, eq_false n10, if_false, e123_1, if_bI hr, mb_t (H.i80 hi), H.icl hi, if_neg h69, e125_3]
        · refine p2_b1 hI ?_ ?_
          · unfold sp_110
            simp only [H.q1n, bn_rt, if_bI ha, if_neg h1, if_neg h2, e1_2, bI_i0, if_neg hr, e2_1]
          · show sp_187 a c r (fT 1 σ) = _
            unfold sp_187
            simp only [H1.qn, bn_rt, if_bI ha, e123_in h1 h2, eq_false n10, if_false, e123_1, bI_i0, if_neg hr, e125_1]
  · refine p2_b1 hI ?_ ?_
    · unfold sp_110
      simp only [H.q1n, bn_rt, bI_i0, if_neg ha, e2_1]
    · show sp_187 a c r (fT 1 σ) = _
      unfold sp_187
      simp only [H1.qn, bn_rt, bI_i0, if_neg ha, e125_1]
