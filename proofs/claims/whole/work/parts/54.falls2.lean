/-! pairs: falls -/
section
variable {σ : St} {v g t m n x s b w : Nat}
theorem Wf.e77l (H : Wf σ v g t m n x s b w) {i : Nat} (hi : i < n) : ∀ (k f : Nat), k ≤ i → k < f → lp_77_4 f (nI i) (nI k - 1) σ = rt (maF (σ 24) (σ 29) (σ 24 i) k) σ
  | 0, f + 1, _, _ => by
    rw [lp_77_4, if_pos (show nI 0 - 1 < 0 by decide)]
    rfl
  | k + 1, f + 1, hk, hf => by
    have hn := H.n2
    show _ = rt (if σ 24 k = σ 24 i then σ 29 k else maF (σ 24) (σ 29) (σ 24 i) k) σ
    rw [nI_pred, lp_77_4, if_neg (nI_pos (by omega)), mb_t (H.i80 (show k < n by omega)), mb_t (H.i80 hi), mb_t (H.i80 (show k < n by omega)), H.icl (show k < n by omega), H.icl hi]
    by_cases h : σ 24 k = σ 24 i
    · rw [if_pos h, if_pos h]
    · rw [if_neg h, if_neg h, ← Int32.sub_eq_add_neg, H.e77l hi k f (by omega) (by omega)]
  | 0, 0, _, h => absurd h (by omega)
  | _ + 1, 0, _, h => absurd h (by omega)
theorem Wf.e77 (H : Wf σ v g t m n x s b w) {i : Nat} (hi : i < n) : sp_77 (nI i) σ = rt (maF (σ 24) (σ 29) (σ 24 i) i) σ := by
  have hn := H.n2
  unfold sp_77
  exact H.e77l hi i FU (Nat.le_refl i) (FU_big (by omega))
theorem Wf.e78l (H : Wf σ v g t m n x s b w) {i : Nat} (hi : i < n) : ∀ (j k f : Nat), k + j = n → j < f → lp_78_4 f (nI i) (nI k) σ = rt (bhF (σ 24) (σ 29) (σ 24 i) k j) σ
  | 0, k, f + 1, hk, _ => by
    have hn := H.n2
    rw [lp_78_4, H.n1, if_pos (nI_le (show n ≤ k by omega) (by omega))]
    rfl
  | j + 1, k, f + 1, hk, hf => by
    have hn := H.n2
    show _ = rt (if σ 24 k = σ 24 i then σ 29 k else bhF (σ 24) (σ 29) (σ 24 i) (k + 1) j) σ
    rw [lp_78_4, H.n1, if_neg (nI_ge (show k < n by omega) (by omega)), mb_t (H.i80 (show k < n by omega)), mb_t (H.i80 hi), mb_t (H.i80 (show k < n by omega)), H.icl (show k < n by omega), H.icl hi, nI_1]
    by_cases h : σ 24 k = σ 24 i
    · rw [if_pos h, if_pos h]
    · rw [if_neg h, if_neg h, H.e78l hi j (k + 1) f (by omega) (by omega)]
  | 0, _, 0, _, h => absurd h (by omega)
  | _ + 1, _, 0, _, h => absurd h (by omega)
theorem Wf.e78 (H : Wf σ v g t m n x s b w) {i : Nat} (hi : i < n) : sp_78 (nI i) σ = rt (bhF (σ 24) (σ 29) (σ 24 i) (i + 1) (n - (i + 1))) σ := by
  have hn := H.n2
  unfold sp_78
  rw [nI_1]
  exact H.e78l hi (n - (i + 1)) (i + 1) FU (by omega) (FU_big (by omega))
end
theorem e79 {σ : St} {V L U : Nat} (hV : V < 1000000) (hL : L < 1000000) (hU : U < 1000000) : sp_79 (nI V) (nI L) (nI U) σ = rt (bI (tyF V L U 6 1 = true)) σ := by
  unfold sp_79
  exact e79o hV hL hU 6 1 FU (by decide) (FU_big (by omega))
theorem e171 {σ : St} {V L U : Nat} (hV : V < 1000000) (hL : L < 1000000) (hU : U < 1000000) (hVL : V < L) : sp_171 (nI V) (nI L) (nI U) σ = rt (bI (tyF V L U 6 1 = true)) σ := by
  unfold sp_171
  exact e171o hV hL hU hVL 6 1 FU (by decide) (FU_big (by omega))
/-- how miles fall -/
def fa (σ : St) (n i : Nat) : Int32 := if σ 29 i < maF (σ 24) (σ 29) (σ 24 i) i then (if tyF (σ 29 i).toNatClampNeg (maF (σ 24) (σ 29) (σ 24 i) i).toNatClampNeg (bhF (σ 24) (σ 29) (σ 24 i) (i + 1) (n - (i + 1))).toNatClampNeg 6 1 = true then 1 else 2) else 0
section
variable {σ : St} {v g t m n x s b w : Nat}
theorem Wf.marg (H : Wf σ v g t m n x s b w) {i : Nat} (hi : i < n) : rg (maF (σ 24) (σ 29) (σ 24 i) i) 1000000 := by
  rcases ah_cs (σ 24) (σ 29) (σ 24 i) i with ⟨_, e⟩ | ⟨j, hj, _, e⟩
  · rw [e]
    decide
  · rw [e]
    exact H.i29 (by omega)
theorem Wf.bhrg (H : Wf σ v g t m n x s b w) {i : Nat} (hi : i < n) : rg (bhF (σ 24) (σ 29) (σ 24 i) (i + 1) (n - (i + 1))) 1000000 := by
  rcases bh_cs (σ 24) (σ 29) (σ 24 i) (n - (i + 1)) (i + 1) with ⟨_, e⟩ | ⟨k, h1, h2, _, e⟩
  · rw [e]
    decide
  · rw [e]
    exact H.i29 (by omega)
theorem Wf.e76 (H : Wf σ v g t m n x s b w) {i : Nat} (hi : i < n) : sp_76 (nI i) σ = rt (fa σ n i) σ := by
  unfold sp_76 fa
  obtain ⟨V, hV, eV⟩ := rg_of (H.i29 hi) (by omega)
  obtain ⟨L, hL, eL⟩ := rg_of (H.marg hi) (by omega)
  obtain ⟨U, hU, eU⟩ := rg_of (H.bhrg hi) (by omega)
  rw [mb_t (H.i80 hi), H.e77 hi, bn_rt, H.icl hi]
  by_cases z : σ 29 i < maF (σ 24) (σ 29) (σ 24 i) i
  · rw [if_pos z, if_pos z, H.e78 hi, bn_rt, eV, eL, eU, e79 hV hL hU, bn_rt, nI_cl (by omega), nI_cl (by omega), nI_cl (by omega), bI_i0]
    by_cases y : tyF V L U 6 1 = true
    · rw [if_pos y, if_pos y]
    · rw [if_neg y, if_neg y]
  · rw [if_neg z, if_neg z]
theorem Wf.e170b (H : Wf σ v g t m n x s b w) {i : Nat} (hi : i < n) (a : Int32) : ∀ (d f : Nat), i + d < n → d < f → lp_170_105 f (nI i) a (bhI (σ 24) (σ 24 i) (i + d + 1) (n - (i + d + 1))) (nI (i + d)) σ = lp_170_105 1 (nI i) a (bhI (σ 24) (σ 24 i) (i + 1) (n - (i + 1))) (nI i) σ
  | 0, f + 1, _, _ => by
    have hn := H.n2
    show lp_170_105 (f + 1) (nI i) a (bhI (σ 24) (σ 24 i) (i + 1) (n - (i + 1))) (nI i) σ = lp_170_105 (0 + 1) (nI i) a (bhI (σ 24) (σ 24 i) (i + 1) (n - (i + 1))) (nI i) σ
    rw [lp_170_105, lp_170_105, if_pos (nI_le (Nat.le_refl i) (by omega)), if_pos (nI_le (Nat.le_refl i) (by omega))]
  | d + 1, f + 1, hd, hf => by
    have hn := H.n2
    have hk : i + (d + 1) < n := hd
    rw [lp_170_105, if_neg (nI_ge (show i < i + (d + 1) by omega) (by omega)), mb_t (H.i80 hk), mb_t (H.i80 hi), H.icl hk, H.icl hi, H.a59]
    have e : bhI (σ 24) (σ 24 i) (i + d + 1) (n - (i + d + 1)) = if σ 24 (i + (d + 1)) = σ 24 i then nI (i + (d + 1)) else bhI (σ 24) (σ 24 i) (i + (d + 1) + 1) (n - (i + (d + 1) + 1)) := by
      rw [show n - (i + d + 1) = (n - (i + (d + 1) + 1)) + 1 by omega, show i + d + 1 = i + (d + 1) by omega]
      rfl
    have e2 : nI (i + (d + 1)) + -1 = nI (i + d) := by
      rw [show i + (d + 1) = (i + d) + 1 by omega]
      exact pk_m1 (i + d)
    rw [e2, ← H.e170b hi a d f (by omega) (by omega), e]
    by_cases z : σ 24 (i + (d + 1)) = σ 24 i
    · rw [if_pos z, if_pos z]
    · rw [if_neg z, if_neg z]
  | 0, 0, _, h => absurd h (by omega)
  | _ + 1, 0, _, h => absurd h (by omega)
theorem Wf.e170 (H : Wf σ v g t m n x s b w) {i : Nat} (hi : i < n) : lp_170_39 FU (nI i) (-1) 0 σ = rt (fa σ n i) σ := by
  have hn := H.n2
  have hl := cloop (fun f k a => lp_170_39 f (nI i) a (nI k) σ) (fun k a => if σ 24 k = σ 24 i then nI k else a) (fun a => lp_170_39 1 (nI i) a (nI i) σ) i ?_ ?_ i 0 FU (-1) (by omega) (FU_big (by omega))
  · have hl : lp_170_39 FU (nI i) (-1) (nI 0) σ = lp_170_39 (0 + 1) (nI i) (fol (fun k a => if σ 24 k = σ 24 i then nI k else a) 0 i (-1)) (nI i) σ := hl
    show lp_170_39 FU (nI i) (-1) (nI 0) σ = _
    rw [hl, ahF_fol, lp_170_39, if_pos (nI_le (Nat.le_refl i) (by omega))]
    unfold fa
    obtain ⟨V, hV, eV⟩ := rg_of (H.i29 hi) (by omega)
    rcases ah_cs (σ 24) (σ 29) (σ 24 i) i with ⟨e1', e2'⟩ | ⟨j, hj, e1', e2'⟩
    · rw [e1', e2', if_pos (show (-1 : Int32) < 0 by decide), if_neg (show ¬ σ 29 i < 0 by rw [eV]; exact nI_pos (by omega))]
    · obtain ⟨L, hL, eL⟩ := rg_of (H.i29 (show j < n by omega)) (by omega)
      obtain ⟨U, hU, eU⟩ := rg_of (H.bhrg hi) (by omega)
      rw [e1', e2', if_neg (nI_pos (by omega)), mb_t (H.i80 hi), mb_t (H.i80 (show j < n by omega)), H.icl hi, H.icl (show j < n by omega), H.a64]
      by_cases z : σ 29 i < σ 29 j
      · have hVL : V < L := by
          rw [eV, eL] at z
          exact (nI_ltI (by omega) (by omega)).mp z
        have hb := H.e170b hi (nI j) (n - 1 - i) FU (by omega) (FU_big (by omega))
        rw [show i + (n - 1 - i) + 1 = n by omega, show n - n = 0 by omega, show i + (n - 1 - i) = n - 1 by omega] at hb
        have hb : lp_170_105 FU (nI i) (nI j) (nI n) (nI (n - 1)) σ = lp_170_105 (0 + 1) (nI i) (nI j) (bhI (σ 24) (σ 24 i) (i + 1) (n - (i + 1))) (nI i) σ := hb
        have en : nI n - 1 = nI (n - 1) := by
          rw [show (1 : Int32) = nI 1 from rfl, pk_sub (by omega)]
        rw [if_pos z, if_pos z, H.mn, en, hb, lp_170_105, if_pos (nI_le (Nat.le_refl i) (by omega)), mb_t (H.i80 hi), mb_t (H.i80 (show j < n by omega)), H.mn, H.icl hi, H.icl (show j < n by omega), H.a64]
        have fin : ∀ (M : MR), M = bn (sp_171 (σ 29 i) (σ 29 j) (bhF (σ 24) (σ 29) (σ 24 i) (i + 1) (n - (i + 1))) σ) (fun r6 σ6 => if r6 = 0 then rt 2 σ6 else rt 1 σ6) → M = rt (if tyF (σ 29 i).toNatClampNeg (σ 29 j).toNatClampNeg (bhF (σ 24) (σ 29) (σ 24 i) (i + 1) (n - (i + 1))).toNatClampNeg 6 1 = true then 1 else 2) σ := by
          intro M hM
          rw [hM, eV, eL, eU, e171 hV hL hU hVL, bn_rt, bI_i0, nI_cl (by omega), nI_cl (by omega), nI_cl (by omega)]
          by_cases y : tyF V L U 6 1 = true
          · rw [if_pos y, if_pos y]
          · rw [if_neg y, if_neg y]
        rcases bh_cs (σ 24) (σ 29) (σ 24 i) (n - (i + 1)) (i + 1) with ⟨b1, b2⟩ | ⟨k, h1, h2, b1, b2⟩
        · rw [b1, show i + 1 + (n - (i + 1)) = n by omega, if_pos (nI_le (Nat.le_refl n) (by omega))]
          apply fin
          rw [b2]
        · rw [b1, if_neg (nI_ge (show k < n by omega) (by omega)), mb_t (H.i80 (show k < n by omega)), H.icl (show k < n by omega)]
          apply fin
          rw [b2]
      · rw [if_neg z, if_neg z]
  · intro f a
    show lp_170_39 (f + 1) (nI i) a (nI i) σ = lp_170_39 (0 + 1) (nI i) a (nI i) σ
    rw [lp_170_39, lp_170_39, if_pos (nI_le (Nat.le_refl i) (by omega)), if_pos (nI_le (Nat.le_refl i) (by omega))]
  · intro f k a hk
    show lp_170_39 (f + 1) (nI i) a (nI k) σ = lp_170_39 f (nI i) (if σ 24 k = σ 24 i then nI k else a) (nI (k + 1)) σ
    rw [lp_170_39, if_neg (nI_ge hk (by omega)), mb_t (H.i80 (show k < n by omega)), mb_t (H.i80 hi), H.icl (show k < n by omega), H.icl hi, H.a59, nI_1]
    by_cases z : σ 24 k = σ 24 i
    · rw [if_pos z, if_pos z]
    · rw [if_neg z, if_neg z]
end
theorem pr_17 : Pr_17 Inv := by
  intro a σ hI
  obtain ⟨v, g, t, m, n, x, s, b, w, H⟩ := inv_wf hI
  have H1 := H.ft 1
  by_cases ha : rg a n
  · obtain ⟨i, hi, rfl⟩ := rg_of ha (by have := H.n2; omega)
    by_cases h3 : σ 15 (σ 24 i).toNatClampNeg = 3
    · have h3' : fT 5 σ 50 (fT 5 σ 59 i).toNatClampNeg = 3 := by
        show σ 50 (σ 59 i).toNatClampNeg = 3
        rw [H.a50, H.a59]
        exact h3
      have hv' : vp_in (fT 5 σ 59 i) 24 := by
        show vp_in (σ 59 i) 24
        rw [H.a59]
        exact (H.iv hi).2
      refine p2_b5 hI ?_ ?_
      · unfold sp_75
        simp only [H.q1n, bn_rt, if_bI ha, mb_t (H.i80 hi), H.icl hi, mb_t (H.iv hi).2, if_pos h3, e2_5]
      · show sp_170 (nI i) (fT 5 σ) = _
        unfold sp_170
        simp only [(H.ft 5).qn, bn_rt, if_bI ha, mb_t (H.i80 hi), H.icl hi, mb_t hv', if_pos h3', e125_5]
    · refine P2_of (r := fa σ n i) (σ1 := σ) (σ2 := σ) ?_ ?_ hI
      · unfold sp_75
        simp only [H.q1n, bn_rt, if_bI ha, mb_t (H.i80 hi), H.icl hi, mb_t (H.iv hi).2, if_neg h3, H.e76 hi]
      · show sp_170 (nI i) σ = _
        unfold sp_170
        simp only [H.qn, bn_rt, if_bI ha, mb_t (H.i80 hi), H.icl hi, H.a59, H.a50, mb_t (H.iv hi).2, if_neg h3, H.e170 hi]
  · refine p2_b1 hI ?_ ?_
    · unfold sp_75
      simp only [H.q1n, bn_rt, bI_i0, if_neg ha, e2_1]
    · show sp_170 a (fT 1 σ) = _
      unfold sp_170
      simp only [H1.qn, bn_rt, bI_i0, if_neg ha, e125_1]
