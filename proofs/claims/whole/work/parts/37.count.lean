/-! pairs: count, leans, says, of, visit -/
theorem le0 {a : Int32} {N : Nat} (h : rg a N) : a ≤ 0 ↔ a = 0 := by
  constructor
  · intro z
    have z := Int32.le_iff_toInt_le.mp z
    have h0 : (0 : Int32).toInt = 0 := rfl
    exact Int32.toInt_inj.mp (by have := h.1; omega)
  · rintro rfl
    decide
section
variable {σ : St} {v g t m n x s b w : Nat}
theorem Wf.e120 (H : Wf σ v g t m n x s b w) : sp_120 σ = rt (cnt (fun i => ¬ sg σ m n x i = 0) n) σ := by
  unfold sp_120
  have hn := H.n2
  refine cnt_loop (fun f j c => lp_120_4 f c (nI j) σ) (fun i => ¬ sg σ m n x i = 0) σ n (by omega) ?_ ?_
  · intro f c
    show lp_120_4 (f + 1) c (nI n) σ = _
    rw [lp_120_4, H.n1, if_pos (nI_le (Nat.le_refl n) (by omega))]
  · intro f j c hj
    show lp_120_4 (f + 1) c (nI j) σ = if ¬ sg σ m n x j = 0 then lp_120_4 f (c + 1) (nI (j + 1)) σ else lp_120_4 f c (nI (j + 1)) σ
    rw [lp_120_4, H.n1, if_neg (nI_ge hj (by omega))]
    simp only [H.e50 hj, bn_rt, nI_1, it_not]
theorem sg_rg (σ : St) (m n x i : Nat) : rg (sg σ m n x i) 32 := by
  unfold sg
  exact sgv_rg _ _ _ _ _
theorem Wf.e193 (H : Wf σ v g t m n x s b w) (a : Int32) : lp_193_112 FU a 0 0 σ = rt (cnt (fun i => ¬ sg σ m n x i = 0) n) σ := by
  have hle : ∀ i, (sg σ m n x i ≤ 0) = (sg σ m n x i = 0) := fun i => propext (le0 (sg_rg σ m n x i))
  have hn := H.n2
  refine cnt_loop (fun f j c => lp_193_112 f a c (nI j) σ) (fun i => ¬ sg σ m n x i = 0) σ n (by omega) ?_ ?_
  · intro f c
    show lp_193_112 (f + 1) a c (nI n) σ = _
    rw [lp_193_112, H.mn, if_pos (nI_le (Nat.le_refl n) (by omega))]
  · intro f j c hj
    show lp_193_112 (f + 1) a c (nI j) σ = if ¬ sg σ m n x j = 0 then lp_193_112 f a (c + 1) (nI (j + 1)) σ else lp_193_112 f a c (nI (j + 1)) σ
    rw [lp_193_112, H.mn, if_neg (nI_ge hj (by omega))]
    simp only [H.e162 hj, bn_rt, nI_1, it_not, Int32.add_zero, hle]
end
theorem pr_32 : Pr_32 Inv := by
  intro a σ hI
  obtain ⟨v, g, t, m, n, x, s, b, w, H⟩ := inv_wf hI
  obtain ⟨q0, q1, q2, q3, q4, q5, q6, q7, q8, q9, _, q11⟩ := H.1
  have q10 := inv_10 hI
  by_cases h0 : a = 0
  · refine P2_of (r := σ 1 3) (σ1 := σ) (σ2 := σ) ?_ ?_ hI
    · unfold sp_119
      rw [if_pos h0]
    · show sp_193 a σ = _
      unfold sp_193
      rw [if_pos h0, q0]
  by_cases h1 : a = 1
  · refine P2_of (r := σ 2 2) (σ1 := σ) (σ2 := σ) ?_ ?_ hI
    · unfold sp_119
      rw [if_neg h0, if_pos h1]
    · show sp_193 a σ = _
      unfold sp_193
      rw [if_neg h0, if_pos h1, q1]
  by_cases h2 : a = 2
  · refine P2_of (r := σ 2 4) (σ1 := σ) (σ2 := σ) ?_ ?_ hI
    · unfold sp_119
      rw [if_neg h0, if_neg h1, if_pos h2]
    · show sp_193 a σ = _
      unfold sp_193
      rw [if_neg h0, if_neg h1, if_pos h2, q2]
  by_cases h3 : a = 3
  · refine P2_of (r := σ 3 14) (σ1 := σ) (σ2 := σ) ?_ ?_ hI
    · unfold sp_119
      rw [if_neg h0, if_neg h1, if_neg h2, if_pos h3]
    · show sp_193 a σ = _
      unfold sp_193
      rw [if_neg h0, if_neg h1, if_neg h2, if_pos h3, q4]
  by_cases h4 : a = 4
  · refine P2_of (r := σ 4 7) (σ1 := σ) (σ2 := σ) ?_ ?_ hI
    · unfold sp_119
      rw [if_neg h0, if_neg h1, if_neg h2, if_neg h3, if_pos h4]
    · show sp_193 a σ = _
      unfold sp_193
      rw [if_neg h0, if_neg h1, if_neg h2, if_neg h3, if_pos h4, q5]
  by_cases h5 : a = 5
  · refine P2_of (r := σ 9 3) (σ1 := σ) (σ2 := σ) ?_ ?_ hI
    · unfold sp_119
      rw [if_neg h0, if_neg h1, if_neg h2, if_neg h3, if_neg h4, if_pos h5]
    · show sp_193 a σ = _
      unfold sp_193
      rw [if_neg h0, if_neg h1, if_neg h2, if_neg h3, if_neg h4, if_pos h5, q6]
  by_cases h6 : a = 6
  · refine P2_of (r := σ 9 4) (σ1 := σ) (σ2 := σ) ?_ ?_ hI
    · unfold sp_119
      rw [if_neg h0, if_neg h1, if_neg h2, if_neg h3, if_neg h4, if_neg h5, if_pos h6]
    · show sp_193 a σ = _
      unfold sp_193
      rw [if_neg h0, if_neg h1, if_neg h2, if_neg h3, if_neg h4, if_neg h5, if_pos h6, q7]
  by_cases h7 : a = 7
  · refine P2_of (r := σ 3 15) (σ1 := σ) (σ2 := σ) ?_ ?_ hI
    · unfold sp_119
      rw [if_neg h0, if_neg h1, if_neg h2, if_neg h3, if_neg h4, if_neg h5, if_neg h6, if_pos h7]
    · show sp_193 a σ = _
      unfold sp_193
      rw [if_neg h0, if_neg h1, if_neg h2, if_neg h3, if_neg h4, if_neg h5, if_neg h6, if_pos h7, q8]
  by_cases h8 : a = 8
  · refine P2_of (r := σ 4 1) (σ1 := σ) (σ2 := σ) ?_ ?_ hI
    · unfold sp_119
      rw [if_neg h0, if_neg h1, if_neg h2, if_neg h3, if_neg h4, if_neg h5, if_neg h6, if_neg h7, if_pos h8]
    · show sp_193 a σ = _
      unfold sp_193
      rw [if_neg h0, if_neg h1, if_neg h2, if_neg h3, if_neg h4, if_neg h5, if_neg h6, if_neg h7, if_pos h8, q9]
  by_cases h9 : a = 9
  · refine P2_of (r := σ 0 12) (σ1 := σ) (σ2 := σ) ?_ ?_ hI
    · unfold sp_119
      rw [if_neg h0, if_neg h1, if_neg h2, if_neg h3, if_neg h4, if_neg h5, if_neg h6, if_neg h7, if_neg h8, if_pos h9]
    · show sp_193 a σ = _
      unfold sp_193
      rw [if_neg h0, if_neg h1, if_neg h2, if_neg h3, if_neg h4, if_neg h5, if_neg h6, if_neg h7, if_neg h8, if_pos h9, q10]
  by_cases h10 : a = 10
  · refine P2_of (r := cnt (fun i => ¬ sg σ m n x i = 0) n) (σ1 := σ) (σ2 := σ) ?_ ?_ hI
    · unfold sp_119
      rw [if_neg h0, if_neg h1, if_neg h2, if_neg h3, if_neg h4, if_neg h5, if_neg h6, if_neg h7, if_neg h8, if_neg h9, if_pos h10, H.e120, bn_rt]
    · show sp_193 a σ = _
      unfold sp_193
      rw [if_neg h0, if_neg h1, if_neg h2, if_neg h3, if_neg h4, if_neg h5, if_neg h6, if_neg h7, if_neg h8, if_neg h9, if_pos h10, H.e193]
  · refine p2_b1 hI ?_ ?_
    · unfold sp_119
      rw [if_neg h0, if_neg h1, if_neg h2, if_neg h3, if_neg h4, if_neg h5, if_neg h6, if_neg h7, if_neg h8, if_neg h9, if_neg h10, e2_1, bn_rt]
    · show sp_193 a (fT 1 σ) = _
      unfold sp_193
      simp only [if_neg h0, if_neg h1, if_neg h2, if_neg h3, if_neg h4, if_neg h5, if_neg h6, if_neg h7, if_neg h8, if_neg h9, if_neg h10, e125_1, bn_rt]
