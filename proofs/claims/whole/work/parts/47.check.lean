/-! pairs: check -/
def ckF (p : Nat → Bool) : Nat → Nat → Int32
  | _, 0 => 0
  | i, j + 1 => if p i = true then 1 + nI i else ckF p (i + 1) j
def ckP (σ : St) (t m n x : Nat) (d : Int32) (k : Nat) : Bool := decide (t ≤ k ∨ ¬ σ 13 k = sm σ m n x (nI k) d)
theorem Ex1.tr {c : Nat} {σ τ υ : St} (h : Ex1 c σ τ) (h2 : Ex1 c τ υ) : Ex1 c σ υ := fun d hd => (h2 d hd).trans (h d hd)
section
variable {σ : St} {v g t m n x s b w : Nat}
theorem Wf.e118 (H : Wf σ v g t m n x s b w) (d : Int32) {W : Nat} (hW : W ≤ 8) : ∀ (j i f : Nat) (τ : St), Ex1 47 σ τ → i + j = W → j < f → ∃ τ', lp_118_28 f d (nI W) (nI i) τ = rt (ckF (ckP σ t m n x d) i j) τ' ∧ Ex1 47 σ τ'
  | 0, i, f + 1, τ, h1, hi, _ => by
    refine ⟨τ, ?_, h1⟩
    rw [lp_118_28, show i = W from hi, if_pos (nI_le (Nat.le_refl W) (by omega))]
    rfl
  | j + 1, i, f + 1, τ, h1, hi, hf => by
    have Hτ := H.fr (h1.fr rfl)
    have ht := H.t2
    rw [lp_118_28, if_neg (nI_ge (show i < W by omega) (by omega)), Hτ.t1]
    show ∃ τ', _ = rt (if ckP σ t m n x d i = true then 1 + nI i else ckF (ckP σ t m n x d) (i + 1) j) τ' ∧ _
    by_cases z1 : t ≤ i
    · refine ⟨τ, ?_, h1⟩
      have e : ckP σ t m n x d i = true := decide_eq_true (Or.inl z1)
      rw [if_pos (nI_le z1 (by omega)), if_pos e]
    · have hv := vp_in_nI (show i < 8 by omega) (show 8 < 2 ^ 31 by omega)
      obtain ⟨τ2, e2, h2⟩ := Hτ.e88 (nI i) d
      have h3 := h1.tr h2
      rw [if_neg (nI_ge (show i < t by omega) (by omega)), mb_t hv, e2, bn_rt, sm_fr (h1.fr rfl), h1 13 (by omega), nI_cl (by omega), nI_1]
      by_cases z2 : σ 13 i = sm σ m n x (nI i) d
      · have e : ¬ ckP σ t m n x d i = true := by
          intro z
          rcases of_decide_eq_true z with q | q
          · exact z1 q
          · exact q z2
        rw [if_pos z2, if_neg e]
        exact H.e118 d hW j (i + 1) f τ2 h3 (by omega) (by omega)
      · have e : ckP σ t m n x d i = true := decide_eq_true (Or.inr z2)
        rw [if_neg z2, if_pos e]
        exact ⟨τ2, rfl, h3⟩
  | 0, _, 0, _, _, _, h => absurd h (by omega)
  | _ + 1, _, 0, _, _, _, h => absurd h (by omega)
theorem Wf.e192 (H : Wf σ v g t m n x s b w) {τ : St} (h1 : Ex1 81 σ τ) (h2 : ∀ i, i < n → τ 81 i = pt σ m n x i) {d : Int32} (hd : dy d) {W : Nat} (hW : W ≤ 8) : ∀ (j i f : Nat), i + j = W → j < f → lp_192_29 f d (nI W) (nI i) τ = rt (ckF (ckP σ t m n x d) i j) τ
  | 0, i, f + 1, hi, _ => by
    rw [lp_192_29, show i = W from hi, if_pos (nI_le (Nat.le_refl W) (by omega))]
    rfl
  | j + 1, i, f + 1, hi, hf => by
    have Hτ := H.fr (h1.fr rfl)
    have ht := H.t2
    rw [lp_192_29, if_neg (nI_ge (show i < W by omega) (by omega)), Hτ.mt]
    show _ = rt (if ckP σ t m n x d i = true then 1 + nI i else ckF (ckP σ t m n x d) (i + 1) j) τ
    by_cases z1 : t ≤ i
    · have e : ckP σ t m n x d i = true := decide_eq_true (Or.inl z1)
      rw [if_pos (nI_le z1 (by omega)), if_pos e]
    · have hv := vp_in_nI (show i < 8 by omega) (show 8 < 2 ^ 31 by omega)
      rw [if_neg (nI_ge (show i < t by omega) (by omega)), H.e179 h1 h2 (nI i) hd, bn_rt, mb_t hv, Hτ.a79, h1 13 (by omega), nI_cl (by omega), nI_1]
      by_cases z2 : σ 13 i = sm σ m n x (nI i) d
      · have e : ¬ ckP σ t m n x d i = true := by
          intro z
          rcases of_decide_eq_true z with q | q
          · exact z1 q
          · exact q z2
        rw [if_pos z2.symm, if_neg e]
        exact H.e192 h1 h2 hd hW j (i + 1) f (by omega) (by omega)
      · have e : ckP σ t m n x d i = true := decide_eq_true (Or.inr z2)
        rw [if_neg (fun q => z2 q.symm), if_pos e]
  | 0, _, 0, _, h => absurd h (by omega)
  | _ + 1, _, 0, _, h => absurd h (by omega)
end
theorem ckP_eq {σ τ : St} (h13 : τ 13 = σ 13) {t m n x : Nat} {d : Int32} (hs : ∀ a, sm τ m n x a d = sm σ m n x a d) : ckP τ t m n x d = ckP σ t m n x d := by
  funext k
  unfold ckP
  rw [h13, hs]
theorem pr_31 : Pr_31 Inv := by
  intro d σ hI
  obtain ⟨v, g, t, m, n, x, s, b, w, H⟩ := inv_wf hI
  have h8 := inv_8 hI
  have h10 := inv_10 hI
  have hw := H.w2
  have H' : Wf (up σ 0 12 0) v g t m n x s b 0 := by
    obtain ⟨hS, hA, hT, hY, ⟨c1, c2, c3, c4, c5, c6, c7, c8, c9⟩, hD⟩ := id H
    exact ⟨hS, hA, hT, hY, ⟨c1, c2, c3, c4, c5, c6, c7, c8, rfl, by omega⟩, hD⟩
  by_cases hd : rg d 10000
  · have hdy : dy d := ⟨by have := hd.1; omega, by have := hd.2; omega⟩
    obtain ⟨τ, e1', h1⟩ := H'.e118 d hw w 0 FU (up σ 0 12 0) (fun _ _ => rfl) (by omega) (FU_big (by omega))
    have f1 := h1.fr (c := 47) rfl
    have Hτ := H'.fr f1
    have H0 : Wf (up τ 12 10 0) v g t m n x s b 0 := Hτ
    obtain ⟨ρ, e2, h2, h3⟩ := H0.e178
    have hI0 : Inv (up τ 12 10 0) := by
      refine wf_inv H0 ?_ ?_
      · show τ 80 = τ 14
        rw [h1 80 (by omega), h1 14 (by omega)]
        exact h8
      · show (0 : Int32) = τ 0 12
        rw [h1 0 (by omega)]
        rfl
    have h12 : τ 12 10 = nI w := by
      rw [h1 12 (by omega)]
      show σ 12 10 = nI w
      rw [h10, H.w1]
    have hck : ckP (up τ 12 10 0) t m n x d = ckP (up σ 0 12 0) t m n x d := by
      refine ckP_eq ?_ ?_
      · show τ 13 = _
        rw [h1 13 (by omega)]
      · intro a
        have e3 : sm (up τ 12 10 0) m n x a d = sm τ m n x a d := rfl
        rw [e3, sm_fr f1]
    refine P2_of (r := ckF (ckP (up σ 0 12 0) t m n x d) 0 w) (σ1 := τ) (σ2 := ρ) ?_ ?_ (inv_fr hI0 (h2.fr rfl))
    · unfold sp_118
      simp only [e1_d, bn_rt, if_bI hd, H.w1]
      exact e1'
    · show sp_192 d τ = _
      unfold sp_192
      simp only [e124, bn_rt, if_bI hd, e2, h12]
      rw [← hck]
      exact H0.e192 h2 h3 hdy hw w 0 FU (by omega) (FU_big (by omega))
  · have hI2 : Inv (up (up σ 0 12 0) 12 10 0) := wf_inv (σ := up (up σ 0 12 0) 12 10 0) H' h8 rfl
    refine P2_of (r := -1000001) (σ1 := fT 1 (up σ 0 12 0)) (σ2 := fM 1 (up (fT 1 (up σ 0 12 0)) 12 10 0)) ?_ ?_ (inv_find hI2 1)
    · unfold sp_118
      simp only [e1_d, bn_rt, bI_i0, if_neg hd, e2_1]
    · show sp_192 d (fT 1 (up σ 0 12 0)) = _
      unfold sp_192
      simp only [e124, bn_rt, bI_i0, if_neg hd, e125_1]
