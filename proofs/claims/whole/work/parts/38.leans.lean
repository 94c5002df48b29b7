/-- the latest test of a vehicle up to a day -/
def ltF (σ : St) (n : Nat) (v d : Int32) : Int32 := fol (fun k l => if σ 24 k = v then (if d < σ 26 k then l else nI k) else l) 0 n (-1)
theorem ltF_cs (σ : St) (n : Nat) (v d : Int32) : ltF σ n v d = -1 ∨ ∃ j, j < n ∧ ltF σ n v d = nI j := by
  unfold ltF
  refine fol_inv (P := fun z => z = -1 ∨ ∃ j, j < n ∧ z = nI j) n 0 _ (Or.inl rfl) ?_
  intro k a _ hk ha
  show (if σ 24 k = v then (if d < σ 26 k then a else nI k) else a) = -1 ∨ ∃ j, j < n ∧ (if σ 24 k = v then (if d < σ 26 k then a else nI k) else a) = nI j
  split
  · split
    · exact ha
    · exact Or.inr ⟨k, by omega, rfl⟩
  · exact ha
def lnF (σ : St) (x : Nat) (v d l : Int32) : Int32 := if l < 0 then 0 else if ul σ x l.toNatClampNeg = 1 then (if σ 26 l.toNatClampNeg + due (σ 15 v.toNatClampNeg) < d then 0 else 1) else 0
def ln (σ : St) (n x : Nat) (v d : Int32) : Int32 := lnF σ x v d (ltF σ n v d)
theorem ln_01 (σ : St) (n x : Nat) (v d : Int32) : ln σ n x v d = 0 ∨ ln σ n x v d = 1 := by
  unfold ln lnF
  split
  · exact Or.inl rfl
  · split
    · split
      · exact Or.inl rfl
      · exact Or.inr rfl
    · exact Or.inl rfl
section
variable {σ : St} {v g t m n x s b w : Nat}
theorem Wf.v24 (H : Wf σ v g t m n x s b w) {k : Nat} (hk : k < v) : vp_in (nI k) 24 := vp_in_nI (by have := H.v2; omega) (by omega)
theorem Wf.vcl (H : Wf σ v g t m n x s b w) {k : Nat} (hk : k < v) : (nI k).toNatClampNeg = k := nI_cl (by have := H.v2; omega)
theorem Wf.e116 (H : Wf σ v g t m n x s b w) {k : Nat} (hk : k < v) (d : Int32) : sp_116 (nI k) d σ = rt (ln σ n x (nI k) d) σ := by
  unfold sp_116
  have hn := H.n2
  refine (cloop (fun f j l => lp_116_5 f (nI k) d l (nI j) σ) (fun j l => if σ 24 j = nI k then (if d < σ 26 j then l else nI j) else l) (fun l => lp_116_5 1 (nI k) d l (nI n) σ) n ?_ ?_ n 0 FU (-1) (by omega) (FU_big (by omega))).trans ?_
  · intro f l
    show lp_116_5 (f + 1) (nI k) d l (nI n) σ = lp_116_5 (0 + 1) (nI k) d l (nI n) σ
    rw [lp_116_5, lp_116_5, H.n1, if_pos (nI_le (Nat.le_refl n) (by omega)), if_pos (nI_le (Nat.le_refl n) (by omega))]
  · intro f j l hj
    show lp_116_5 (f + 1) (nI k) d l (nI j) σ = lp_116_5 f (nI k) d _ (nI (j + 1)) σ
    rw [lp_116_5, H.n1, if_neg (nI_ge hj (by omega))]
    simp only [mb_t (H.i80 hj), H.icl hj, nI_1]
    by_cases h1 : σ 24 j = nI k
    · by_cases h2 : d < σ 26 j
      · simp only [if_pos h1, if_pos h2]
      · simp only [if_pos h1, if_neg h2]
    · simp only [if_neg h1]
  · show lp_116_5 (0 + 1) (nI k) d (ltF σ n (nI k) d) (nI n) σ = rt (lnF σ x (nI k) d (ltF σ n (nI k) d)) σ
    rw [lp_116_5, H.n1, if_pos (nI_le (Nat.le_refl n) (by omega))]
    unfold lnF
    rcases ltF_cs σ n (nI k) d with e | ⟨j, hj, e⟩
    · rw [e, if_pos (by decide), if_pos (by decide), mb_t b00]
    · rw [e, if_neg (nI_pos (by omega)), if_neg (nI_pos (by omega))]
      have h6 := e6 (σ := σ) (H.v24 hk) (by rw [H.vcl hk]; exact (H.dv k hk).1)
      simp only [H.e58 hj, bn_rt, bI_i0, mb_t (H.i80 hj), H.icl hj, h6, mb_T, true_or, or_true, rt_ite]
theorem Wf.e190 (H : Wf σ v g t m n x s b w) {k : Nat} (hk : k < v) (d : Int32) : sp_190 (nI k) d σ = rt (ln σ n x (nI k) d) σ := by
  unfold sp_190
  have hn := H.n2
  refine (cloop (fun f j l => lp_190_5 f (nI k) d l (nI j) σ) (fun j l => if σ 24 j = nI k then (if d < σ 26 j then l else nI j) else l) (fun l => lp_190_5 1 (nI k) d l (nI n) σ) n ?_ ?_ n 0 FU (-1) (by omega) (FU_big (by omega))).trans ?_
  · intro f l
    show lp_190_5 (f + 1) (nI k) d l (nI n) σ = lp_190_5 (0 + 1) (nI k) d l (nI n) σ
    rw [lp_190_5, lp_190_5, H.mn, if_pos (nI_le (Nat.le_refl n) (by omega)), if_pos (nI_le (Nat.le_refl n) (by omega))]
  · intro f j l hj
    show lp_190_5 (f + 1) (nI k) d l (nI j) σ = lp_190_5 f (nI k) d _ (nI (j + 1)) σ
    rw [lp_190_5, H.mn, if_neg (nI_ge hj (by omega))]
    simp only [mb_t (H.i80 hj), H.icl hj, nI_1, H.a59, H.a61]
    by_cases h1 : σ 24 j = nI k
    · by_cases h2 : d < σ 26 j
      · simp only [if_pos h1, if_pos h2]
      · simp only [if_pos h1, if_neg h2]
    · simp only [if_neg h1]
  · show lp_190_5 (0 + 1) (nI k) d (ltF σ n (nI k) d) (nI n) σ = rt (lnF σ x (nI k) d (ltF σ n (nI k) d)) σ
    rw [lp_190_5, H.mn, if_pos (nI_le (Nat.le_refl n) (by omega))]
    unfold lnF
    rcases ltF_cs σ n (nI k) d with e | ⟨j, hj, e⟩
    · rw [e, if_pos (by decide), if_pos (by decide)]
    · rw [e, if_neg (nI_pos (by omega)), if_neg (nI_pos (by omega))]
      have h6 := e129 (σ := σ) (H.v24 hk)
      simp only [H.e154 hj, bn_rt, mb_t (H.i80 hj), H.icl hj, h6, rt_ite, H.a50, H.a61]
theorem Wf.e115 (H : Wf σ v g t m n x s b w) (a d : Int32) : lp_115_59 FU a d 0 0 σ = rt (cnt (fun k => ¬ ln σ n x (nI k) d = 0) v) σ := by
  have hv := H.v2
  refine cnt_loop (fun f j c => lp_115_59 f a d c (nI j) σ) (fun k => ¬ ln σ n x (nI k) d = 0) σ v (by omega) ?_ ?_
  · intro f c
    show lp_115_59 (f + 1) a d c (nI v) σ = _
    rw [lp_115_59, H.v1, if_pos (nI_le (Nat.le_refl v) (by omega))]
  · intro f j c hj
    show lp_115_59 (f + 1) a d c (nI j) σ = if ¬ ln σ n x (nI j) d = 0 then lp_115_59 f a d (c + 1) (nI (j + 1)) σ else lp_115_59 f a d c (nI (j + 1)) σ
    rw [lp_115_59, H.v1, if_neg (nI_ge hj (by omega))]
    simp only [H.e116 hj, bn_rt, nI_1, it_not]
theorem Wf.e189 (H : Wf σ v g t m n x s b w) (a d : Int32) : lp_189_43 FU a d 0 0 σ = rt (cnt (fun k => ¬ ln σ n x (nI k) d = 0) v) σ := by
  have hv := H.v2
  refine cnt_loop (fun f j c => lp_189_43 f a d c (nI j) σ) (fun k => ¬ ln σ n x (nI k) d = 0) σ v (by omega) ?_ ?_
  · intro f c
    show lp_189_43 (f + 1) a d c (nI v) σ = _
    rw [lp_189_43, H.mv, if_pos (nI_le (Nat.le_refl v) (by omega))]
  · intro f j c hj
    show lp_189_43 (f + 1) a d c (nI j) σ = if ¬ ln σ n x (nI j) d = 0 then lp_189_43 f a d (c + 1) (nI (j + 1)) σ else lp_189_43 f a d c (nI (j + 1)) σ
    rw [lp_189_43, H.mv, if_neg (nI_ge hj (by omega))]
    simp only [H.e190 hj, bn_rt, nI_1, it_not]
    rcases ln_01 σ n x (nI j) d with e | e
    · rw [e, if_pos rfl, Int32.add_zero]
    · rw [e, if_neg (by decide)]
end
theorem pr_29 : Pr_29 Inv := by
  intro a d σ hI
  obtain ⟨v, g, t, m, n, x, s, b, w, H⟩ := inv_wf hI
  have H1 := H.ft 1
  have hv := H.v2
  have hV : (nI v - 1).toInt = (v : Int) - 1 := pk_sub_toInt (a := v) (b := 1) (by omega) (by omega)
  have hm1 : (-1 : Int32).toInt = -1 := rfl
  have hV1 : fT 1 σ 12 0 = nI v := H.mv
  have h10' : ¬ (1 : Int32) = 0 := by decide
  have h10 : ((1 : Int32) = 0) = False := eq_false h10'
  by_cases h1 : a < -1
  · refine p2_b1 hI ?_ ?_
    · unfold sp_115
      rw [if_pos h1, e2_1, bn_rt]
    · show sp_189 a d (fT 1 σ) = _
      unfold sp_189
      simp only [e123_lo h1, bn_rt, if_true, e125_1]
  · by_cases h2 : nI v ≤ a
    · have h4 : nI v - 1 < a := by
        rw [Int32.lt_iff_toInt_lt, hV]
        have := (le_nI (x := a) (n := v) (by omega)).mp h2
        omega
      refine p2_b1 hI ?_ ?_
      · unfold sp_115
        rw [if_neg h1, H.v1, if_pos h2, e2_1, bn_rt]
      · show sp_189 a d (fT 1 σ) = _
        unfold sp_189
        simp only [hV1, e123_hi h4, bn_rt, if_true, e125_1]
    · have h3 : ¬ nI v - 1 < a := by
        intro z
        rw [Int32.lt_iff_toInt_lt, hV] at z
        exact h2 ((le_nI (by omega)).mpr (by omega))
      by_cases hd : rg d 10000
      · by_cases h0 : a < 0
        · refine P2_of (r := cnt (fun k => ¬ ln σ n x (nI k) d = 0) v) (σ1 := σ) (σ2 := σ) ?_ ?_ hI
          · unfold sp_115
            rw [if_neg h1, H.v1, if_neg h2, e1_d, bn_rt, if_bI hd, if_pos h0, H.e115]
          · show sp_189 a d σ = _
            unfold sp_189
            rw [H.mv, e123_in h1 h3, bn_rt, if_neg h10', e124, bn_rt, if_bI hd, if_pos h0, H.e189]
        · have hr : rg a v := ⟨Int.not_lt.mp (fun z => h0 (xlt0.mpr z)), Int.not_le.mp (fun z => h2 ((le_nI (by omega)).mpr z))⟩
          obtain ⟨k, hk, rfl⟩ := rg_of hr (by omega)
          refine P2_of (r := ln σ n x (nI k) d) (σ1 := σ) (σ2 := σ) ?_ ?_ hI
          · unfold sp_115
            rw [if_neg h1, H.v1, if_neg h2, e1_d, bn_rt, if_bI hd, if_neg h0, H.e116 hk, bn_rt, r01 (ln_01 _ _ _ _ _)]
          · show sp_189 (nI k) d σ = _
            unfold sp_189
            rw [H.mv, e123_in h1 h3, bn_rt, if_neg h10', e124, bn_rt, if_bI hd, if_neg h0, H.e190 hk, bn_rt]
      · refine p2_b1 hI ?_ ?_
        · unfold sp_115
          rw [if_neg h1, H.v1, if_neg h2, e1_d, bn_rt, bI_i0, if_neg hd, e2_1, bn_rt]
        · show sp_189 a d (fT 1 σ) = _
          unfold sp_189
          simp only [hV1, e123_in h1 h3, bn_rt, h10, if_false, e124, bI_i0, if_neg hd, e125_1]
