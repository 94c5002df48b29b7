/-! pairs: visit, rule, draw, error -/
theorem txp_g {sn : Nat → Int32} {d : Int32} {x : Nat} (hx : x ≤ 6) (h : 0 ≤ txF sn d x) : ∀ k, rg k 4 → vp_in (txF sn d x * 4 + k) 24 := by
  rcases txF_cs sn d x with e | ⟨j, hj, e⟩
  · rw [e] at h
    exact absurd h (by decide)
  · rw [e]
    intro k hk
    obtain ⟨q, hq, rfl⟩ := rg_of hk (by omega)
    rw [show (4 : Int32) = nI 4 from rfl, pk_mul, nI_add]
    exact vp_in_nI (by omega) (by omega)
theorem e86g {σ : St} {x i q : Nat} (hx : σ 4 7 = nI x) (hx6 : x ≤ 6) (hi : i < 80) (hq : q < 6) (h35 : σ 35 i = nI (q + 1)) : sp_86 (nI i) σ = rt (mi σ x i) σ := by
  have h80 := vp_in_nI hi (show 80 < 2 ^ 31 by omega)
  have hcl : (nI i).toNatClampNeg = i := nI_cl (by omega)
  have e40' : sp_40 (σ 26 i) σ = rt (txF (σ 39) (σ 26 i) x) σ := by
    unfold sp_40
    rw [hx]
    exact e40l _ x FU hx6 (FU_big (by omega))
  have h0 : ¬ σ 35 i ≤ 0 := by rw [h35]; exact nI_nle (by omega) (by omega)
  have h6 : vp_in (σ 35 i - 1) 6 := by rw [h35, nI_pred]; exact vp_in_nI hq (by omega)
  have e60' : sp_60 (nI i) σ = rt (kn σ i) σ := by
    unfold sp_60 sp_61 kn
    simp only [mb_t h80, hcl, if_neg h0, mb_T, or_true, bn_rt, eq_false n10, if_false, mb_t h6]
  unfold sp_86 mi
  simp only [mb_t h80, hcl, e40', bn_rt, e60']
  by_cases h : 0 ≤ tx σ x i
  · simp only [if_pos h, e41 (txp_g hx6 h 1 r14), bn_rt]
  · simp only [if_neg h]
theorem e96 {σ : St} {i : Nat} (hi : i < 80) (c : Int32) : sp_96 c (nI i) σ = rt 0 (up (up σ 35 i (1 + c)) 9 4 (σ 9 4 + 1)) := by
  unfold sp_96
  rw [mb_t (vp_in_nI hi (by omega)), nI_cl (by omega)]
theorem pr_24 : Pr_24 Inv := by
  intro c a σ hI
  obtain ⟨v, g, t, m, n, x, s, b, w, H⟩ := inv_wf hI
  have H1 := H.ft 1
  have hn := H.n2
  have hs := H.s2
  by_cases hc : rg c s
  · by_cases ha : rg a n
    · obtain ⟨i, hi, rfl⟩ := rg_of ha (by omega)
      obtain ⟨q, hq, rfl⟩ := rg_of hc (by omega)
      rcases H.vis hi with ⟨e, f⟩ | ⟨p, hp, e, f⟩
      · have h0 : σ 35 i ≤ 0 := by rw [e]; decide
        have h68 : up (up σ 35 i (1 + nI q)) 9 4 (σ 9 4 + 1) 68 i < 0 := by
          show σ 68 i < 0
          rw [f]
          decide
        have W : Wf (up (up (up (up σ 35 i (1 + nI q)) 9 4 (σ 9 4 + 1)) 68 i (nI q)) 12 7 (up (up σ 35 i (1 + nI q)) 9 4 (σ 9 4 + 1) 12 7 + 1)) v g t m n x s b w := by
          obtain ⟨hS, hA, hT, hY, hC, hD⟩ := id H
          obtain ⟨q0, q1, q2, q3, q4, q5, q6, q7, q8⟩ := hS
          obtain ⟨d1, d2, d3, d4, d5⟩ := hD
          refine ⟨⟨q0, q1, q2, q3, q4, q5, q6, ?_, q8⟩, hA, hT, hY, hC, d1, d2, ?_, ?_, d5⟩
          · show σ 12 7 + 1 = σ 9 4 + 1
            rw [q7]
          · intro k hk
            obtain ⟨z1, z2, z3, z4⟩ := d3 k hk
            refine ⟨z1, z2, ?_, ?_⟩
            · show rg (upd (σ 35) i (1 + nI q) k) (s + 1)
              unfold upd
              split
              · rw [Int32.add_comm, nI_1]
                exact rg_nI (by omega) (by omega)
              · exact z3
            · show upd (σ 68) i (nI q) k = upd (σ 35) i (1 + nI q) k - 1
              unfold upd
              split
              · rw [Int32.add_comm, nI_1, nI_pred]
              · exact z4
          · intro k
            obtain ⟨z1, z2, z3, z4⟩ := d4 k
            refine ⟨z1, z2, z3, fun hk => ⟨(z4 hk).1, ?_, (z4 hk).2.2⟩⟩
            show upd (σ 35) i (1 + nI q) k = 0
            unfold upd
            rw [if_neg (by omega)]
            exact (z4 hk).2.1
        have h8 := inv_8 hI
        have h10 := inv_10 hI
        have e35 : up (up σ 35 i (1 + nI q)) 9 4 (σ 9 4 + 1) 35 i = nI (q + 1) := by
          show upd (σ 35) i (1 + nI q) i = nI (q + 1)
          unfold upd
          rw [if_pos rfl, Int32.add_comm, nI_1]
        refine P2_of (r := mi (up (up σ 35 i (1 + nI q)) 9 4 (σ 9 4 + 1)) x i) (σ1 := up (up σ 35 i (1 + nI q)) 9 4 (σ 9 4 + 1)) (σ2 := up (up (up (up σ 35 i (1 + nI q)) 9 4 (σ 9 4 + 1)) 68 i (nI q)) 12 7 (up (up σ 35 i (1 + nI q)) 9 4 (σ 9 4 + 1) 12 7 + 1)) ?_ ?_ (wf_inv W h8 h10)
        · unfold sp_95
          simp only [H.q1s, bn_rt, if_bI hc, H.q1n, if_bI ha, H.e61 hi, bI_i0, it_not, if_pos h0, e96 (show i < 80 by omega)]
          rw [bn_id]
          exact e86g (σ := up (up σ 35 i (1 + nI q)) 9 4 (σ 9 4 + 1)) (x := x) (i := i) (q := q) H.x1 H.x2 (by omega) (by omega) e35
        · have k1 : sp_123 (nI q) 0 (up (up σ 35 i (1 + nI q)) 9 4 (σ 9 4 + 1) 12 6 - 1) (up (up σ 35 i (1 + nI q)) 9 4 (σ 9 4 + 1)) = rt (bI (rg (nI q) s)) (up (up σ 35 i (1 + nI q)) 9 4 (σ 9 4 + 1)) := by
            rw [show up (up σ 35 i (1 + nI q)) 9 4 (σ 9 4 + 1) 12 6 = nI s from H.ms]
            exact e123c _ (by omega) _
          have k2 : sp_140 (nI i) (up (up σ 35 i (1 + nI q)) 9 4 (σ 9 4 + 1)) = rt (bI (rg (nI i) n)) (up (up σ 35 i (1 + nI q)) 9 4 (σ 9 4 + 1)) := e140 (σ := up (up σ 35 i (1 + nI q)) 9 4 (σ 9 4 + 1)) H.mn H.n2 _
          show sp_182 (nI q) (nI i) (up (up σ 35 i (1 + nI q)) 9 4 (σ 9 4 + 1)) = _
          unfold sp_182
          simp only [k1, bn_rt, if_bI hc, k2, if_bI ha, mb_t (H.i80 hi), H.icl hi, if_pos h68, W.e176 hi]
          rfl
      · have h0 : ¬ σ 35 i ≤ 0 := by rw [e]; exact nI_nle (by omega) (by omega)
        have h68 : ¬ fT 3 σ 68 i < 0 := by
          show ¬ σ 68 i < 0
          rw [f]
          exact nI_pos (by omega)
        refine p2_b3 hI ?_ ?_
        · unfold sp_95
          simp only [H.q1s, bn_rt, if_bI hc, H.q1n, if_bI ha, H.e61 hi, bI_i0, it_not, if_neg h0, e2_3]
        · show sp_182 (nI q) (nI i) (fT 3 σ) = _
          unfold sp_182
          simp only [(H.ft 3).qs, (H.ft 3).qn, bn_rt, if_bI hc, if_bI ha, mb_t (H.i80 hi), H.icl hi, if_neg h68, e125_3]
    · refine p2_b1 hI ?_ ?_
      · unfold sp_95
        simp only [H.q1s, bn_rt, if_bI hc, H.q1n, bI_i0, if_neg ha, e2_1]
      · show sp_182 c a (fT 1 σ) = _
        unfold sp_182
        simp only [H1.qs, bn_rt, if_bI hc, H1.qn, bI_i0, if_neg ha, e125_1]
  · refine p2_b1 hI ?_ ?_
    · unfold sp_95
      simp only [H.q1s, bn_rt, bI_i0, if_neg hc, e2_1]
    · show sp_182 c a (fT 1 σ) = _
      unfold sp_182
      simp only [H1.qs, bn_rt, bI_i0, if_neg hc, e125_1]
