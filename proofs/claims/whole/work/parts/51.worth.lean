/-! survey of a garage; pairs: worth -/
def rk (σ : St) (m n x : Nat) (g : Int32) : Int32 := fol (fun k a => if gr σ m k = g then a + bc (sg σ m n x k) else a) 0 n 1
def se (σ : St) (m n : Nat) (g : Int32) : Int32 := fol (fun k a => if gr σ m k = g then a ||| kn σ k else a) 0 n 0
def wo (σ : St) (m n x : Nat) (c : Nat) (g : Int32) : Int32 := rk σ m n x g * bc (σ 45 c &&& (se σ m n g ^^^ (-1)))
theorem rk_fr {σ τ : St} (h : Fr σ τ) (m n x : Nat) (g : Int32) : rk τ m n x g = rk σ m n x g := by
  have h1 : ∀ ρ : St, rk (msk ρ) m n x g = rk ρ m n x g := fun _ => rfl
  rw [← h1 τ, ← h1 σ, msk_fr h]
theorem se_fr {σ τ : St} (h : Fr σ τ) (m n : Nat) (g : Int32) : se τ m n g = se σ m n g := by
  have h1 : ∀ ρ : St, se (msk ρ) m n g = se ρ m n g := fun _ => rfl
  rw [← h1 τ, ← h1 σ, msk_fr h]
theorem wo_fr {σ τ : St} (h : Fr σ τ) (m n x c : Nat) (g : Int32) : wo τ m n x c g = wo σ m n x c g := by
  have h1 : ∀ ρ : St, wo (msk ρ) m n x c g = wo ρ m n x c g := fun _ => rfl
  rw [← h1 τ, ← h1 σ, msk_fr h]
theorem sg_fr {σ τ : St} (h : Fr σ τ) (m n x i : Nat) : sg τ m n x i = sg σ m n x i := by
  have h1 : ∀ ρ : St, sg (msk ρ) m n x i = sg ρ m n x i := fun _ => rfl
  rw [← h1 τ, ← h1 σ, msk_fr h]
theorem gr_fr {σ τ : St} (h : Fr σ τ) (m i : Nat) : gr τ m i = gr σ m i := by
  have h1 : ∀ ρ : St, gr (msk ρ) m i = gr ρ m i := fun _ => rfl
  rw [← h1 τ, ← h1 σ, msk_fr h]
theorem kn_fr {σ τ : St} (h : Fr σ τ) (i : Nat) : kn τ i = kn σ i := by
  have h1 : ∀ ρ : St, kn (msk ρ) i = kn ρ i := fun _ => rfl
  rw [← h1 τ, ← h1 σ, msk_fr h]
theorem Ex1.rf (c : Nat) (σ : St) : Ex1 c σ σ := fun _ _ => rfl
section
variable {σ : St} {v g t m n x s b w : Nat}
theorem Wf.e49 (H : Wf σ v g t m n x s b w) (a : Int32) : ∃ τ, sp_49 a σ = rt 0 τ ∧ Ex1 11 σ τ ∧ τ 11 6 = rk σ m n x a ∧ τ 11 7 = se σ m n a := by
  have hn := H.n2
  unfold sp_49
  have hlp := iloop (fun f i τ => lp_49_12 f a (nI i) τ) (fun j τ => Ex1 11 σ τ ∧ τ 11 6 = fol (fun k a' => if gr σ m k = a then a' + bc (sg σ m n x k) else a') 0 j 1 ∧ τ 11 7 = fol (fun k a' => if gr σ m k = a then a' ||| kn σ k else a') 0 j 0) n ?_ n 0 FU (up (up σ 11 6 1) 11 7 0) (by omega) (FU_big (by omega)) ⟨Ex1.up (Ex1.up (Ex1.rf 11 σ) 6 1) 7 0, rfl, rfl⟩
  · obtain ⟨k, τ, ⟨h1, h2, h3⟩, e⟩ := hlp
    refine ⟨τ, ?_, h1, h2, h3⟩
    show lp_49_12 FU a (nI 0) _ = _
    rw [e]
    show lp_49_12 (k + 1) a (nI n) τ = _
    rw [lp_49_12, (H.fr (h1.fr rfl)).n1, if_pos (nI_le (Nat.le_refl n) (by omega))]
  · intro f j τ hj ⟨h1, h2, h3⟩
    have Hτ := H.fr (h1.fr rfl)
    have f1 := h1.fr (c := 11) rfl
    rw [fol_last, fol_last, Nat.zero_add, ← h2, ← h3]
    by_cases z : gr σ m j = a
    · have h4 : Ex1 11 σ (up τ 11 6 (τ 11 6 + bc (sg σ m n x j))) := h1.up 6 _
      have H4 := H.fr (h4.fr rfl)
      refine ⟨up (up τ 11 6 (τ 11 6 + bc (sg σ m n x j))) 11 7 (τ 11 7 ||| kn σ j), ⟨h4.up 7 _, ?_, ?_⟩, ?_⟩
      · rw [if_pos z]
        rfl
      · rw [if_pos z]
        rfl
      · show lp_49_12 (f + 1) a (nI j) τ = lp_49_12 f a (nI (j + 1)) _
        rw [lp_49_12, Hτ.n1, if_neg (nI_ge hj (by omega))]
        simp only [Hτ.f24 hj, bn_rt, gr_fr f1, if_pos z, Hτ.e50 hj, e59, sg_fr f1, H4.e60 hj, kn_fr (h4.fr rfl), nI_1]
    · refine ⟨τ, ⟨h1, ?_, ?_⟩, ?_⟩
      · rw [if_neg z]
      · rw [if_neg z]
      · show lp_49_12 (f + 1) a (nI j) τ = lp_49_12 f a (nI (j + 1)) _
        rw [lp_49_12, Hτ.n1, if_neg (nI_ge hj (by omega))]
        simp only [Hτ.f24 hj, bn_rt, gr_fr f1, if_neg z, nI_1]
theorem Wf.e161 (H : Wf σ v g t m n x s b w) (a : Int32) : sp_161 a σ = rt (rk σ m n x a) σ := by
  have hn := H.n2
  unfold sp_161 rk
  refine cloop (fun f i c => lp_161_4 f a c (nI i) σ) (fun k c => if gr σ m k = a then c + bc (sg σ m n x k) else c) (fun c => rt c σ) n ?_ ?_ n 0 FU 1 (by omega) (FU_big (by omega))
  · intro f c
    show lp_161_4 (f + 1) a c (nI n) σ = _
    rw [lp_161_4, H.mn, if_pos (nI_le (Nat.le_refl n) (by omega))]
  · intro f i c hi
    show lp_161_4 (f + 1) a c (nI i) σ = lp_161_4 f a (if gr σ m i = a then c + bc (sg σ m n x i) else c) (nI (i + 1)) σ
    rw [lp_161_4, H.mn, if_neg (nI_ge hi (by omega))]
    simp only [H.f141 hi, bn_rt, H.e162 hi, e160 (rg_le (sg_rg σ m n x i) (by omega : 32 ≤ 256)), nI_1, Int32.add_zero]
    by_cases z : gr σ m i = a
    · simp only [if_pos z]
    · simp only [if_neg z]
theorem Wf.e184 (H : Wf σ v g t m n x s b w) {c : Nat} (hc : c < s) (a : Int32) : sp_184 (nI c) a σ = rt (wo σ m n x c a) σ := by
  have hn := H.n2
  have hs := H.s2
  unfold sp_184
  have hl := cloop (fun f i z => lp_184_5 f (nI c) a z (nI i) σ) (fun k z => if gr σ m k = a then z ||| kn σ k else z) (fun z => lp_184_5 1 (nI c) a z (nI n) σ) n ?_ ?_ n 0 FU 0 (by omega) (FU_big (by omega))
  · show lp_184_5 FU (nI c) a 0 (nI 0) σ = _
    have hl : lp_184_5 FU (nI c) a 0 (nI 0) σ = lp_184_5 (0 + 1) (nI c) a (se σ m n a) (nI n) σ := hl
    rw [hl, lp_184_5, H.mn, if_pos (nI_le (Nat.le_refl n) (by omega)), H.e161, bn_rt, mb_t (vp_in_nI (show c < 6 by omega) (by omega)), nI_cl (by omega), H.a77, e160 (and_rg (H.ds c hc) _), bn_rt]
    rfl
  · intro f z
    show lp_184_5 (f + 1) (nI c) a z (nI n) σ = lp_184_5 (0 + 1) (nI c) a z (nI n) σ
    rw [lp_184_5, lp_184_5, H.mn, if_pos (nI_le (Nat.le_refl n) (by omega)), if_pos (nI_le (Nat.le_refl n) (by omega))]
  · intro f i z hi
    show lp_184_5 (f + 1) (nI c) a z (nI i) σ = lp_184_5 f (nI c) a (if gr σ m i = a then z ||| kn σ i else z) (nI (i + 1)) σ
    rw [lp_184_5, H.mn, if_neg (nI_ge hi (by omega))]
    simp only [mb_t (H.i80 hi), H.icl hi, H.f141 hi, bn_rt, nI_1, Int32.or_zero, H.a77]
    unfold kn
    rcases H.vis hi with ⟨e, f'⟩ | ⟨q, hq, e, f'⟩
    · rw [if_pos (show σ 68 i < 0 by rw [f']; decide), if_pos (show σ 35 i ≤ 0 by rw [e]; decide), Int32.or_zero, ite_self]
    · rw [if_neg (show ¬ σ 68 i < 0 by rw [f']; exact nI_pos (by omega)), if_neg (show ¬ σ 35 i ≤ 0 by rw [e]; exact nI_nle (by omega) (by omega)), e, nI_pred, f', mb_t (vp_in_nI (show q < 6 by omega) (by omega)), nI_cl (by omega)]
      by_cases z : gr σ m i = a
      · simp only [if_pos z]
      · simp only [if_neg z]
theorem e99 {τ : St} {c : Nat} (hc : c < 6) : sp_99 (nI c) τ = rt (bc (τ 45 c &&& (τ 11 7 ^^^ (-1)))) τ := by
  unfold sp_99
  rw [mb_t (vp_in_nI hc (by omega)), nI_cl (by omega), e59, bn_rt]
theorem Wf.e98 (H : Wf σ v g t m n x s b w) {c : Nat} (hc : c < s) (a : Int32) : ∃ τ, sp_98 (nI c) a σ = rt (wo σ m n x c a) τ ∧ Ex1 11 σ τ := by
  have hs := H.s2
  obtain ⟨τ, e, h1, h2, h3⟩ := H.e49 a
  refine ⟨τ, ?_, h1⟩
  unfold sp_98 wo
  simp only [e, bn_rt, e99 (show c < 6 by omega), h2, h3, h1 45 (show 45 ≠ 11 by omega)]
end
theorem pr_25 : Pr_25 Inv := by
  intro c a σ hI
  obtain ⟨v, g, t, m, n, x, s, b, w, H⟩ := inv_wf hI
  have H1 := H.ft 1
  have hs := H.s2
  by_cases hc : rg c s
  · by_cases ha : rg a g
    · obtain ⟨q, hq, rfl⟩ := rg_of hc (by omega)
      obtain ⟨τ, e, h1⟩ := H.e98 hq a
      have f1 := h1.fr (c := 11) rfl
      have Hτ := H.fr f1
      refine P2_of (r := wo σ m n x q a) (σ1 := τ) (σ2 := τ) ?_ ?_ (inv_fr hI f1)
      · unfold sp_97
        simp only [H.q1s, bn_rt, if_bI hc, H.q1g, if_bI ha, e]
      · show sp_183 (nI q) a τ = _
        unfold sp_183
        simp only [Hτ.qs, bn_rt, if_bI hc, Hτ.qg, if_bI ha, Hτ.e184 hq, wo_fr f1]
    · refine p2_b1 hI ?_ ?_
      · unfold sp_97
        simp only [H.q1s, bn_rt, if_bI hc, H.q1g, bI_i0, if_neg ha, e2_1]
      · show sp_183 c a (fT 1 σ) = _
        unfold sp_183
        simp only [H1.qs, bn_rt, if_bI hc, H1.qg, bI_i0, if_neg ha, e125_1]
  · refine p2_b1 hI ?_ ?_
    · unfold sp_97
      simp only [H.q1s, bn_rt, bI_i0, if_neg hc, e2_1]
    · show sp_183 c a (fT 1 σ) = _
      unfold sp_183
      simp only [H1.qs, bn_rt, bI_i0, if_neg hc, e125_1]
