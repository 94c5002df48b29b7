/-! kinds; pairs: as, of -/
abbrev und (k c : Int32) : Prop := k = c ∨ c = 0 ∨ (c = 1 ∧ k = 2)
theorem e5 (k c : Int32) (σ : St) : sp_5 k c σ = rt (bI (und k c)) σ := by
  unfold sp_5
  rw [mb_t b00, mb_t b11]
  by_cases h1 : k = c
  · rw [if_pos h1, bI_t (Or.inl h1)]
  · rw [if_neg h1]
    by_cases h2 : c = 0
    · rw [if_pos h2, bI_t (Or.inr (Or.inl h2))]
    · rw [if_neg h2]
      by_cases h3 : c = 1
      · rw [if_pos h3]
        by_cases h4 : k = 2
        · rw [if_pos h4, bI_t (Or.inr (Or.inr ⟨h3, h4⟩))]
        · rw [if_neg h4, bI_f (fun z => z.elim h1 (fun z => z.elim h2 (fun z => h4 z.2)))]
      · rw [if_neg h3, bI_f (fun z => z.elim h1 (fun z => z.elim h2 (fun z => h3 z.1)))]
theorem e128 (k c : Int32) (σ : St) : sp_128 k c σ = rt (bI (und k c)) σ := by
  unfold sp_128
  rw [mb_t b00, mb_t b11]
  by_cases h2 : c = 0
  · rw [if_pos h2, bI_t (Or.inr (Or.inl h2))]
  · rw [if_neg h2]
    by_cases h1 : k = c
    · rw [if_pos h1, bI_t (Or.inl h1)]
    · rw [if_neg h1]
      by_cases h3 : c = 1
      · rw [if_pos h3]
        by_cases h4 : k = 2
        · rw [if_pos h4, bI_t (Or.inr (Or.inr ⟨h3, h4⟩))]
        · rw [if_neg h4, bI_f (fun z => z.elim h1 (fun z => z.elim h2 (fun z => h4 z.2)))]
      · rw [if_neg h3, bI_f (fun z => z.elim h1 (fun z => z.elim h2 (fun z => h3 z.1)))]
def due (k : Int32) : Int32 := if k = 2 then 182 else if k = 3 then 730 else 365
theorem e6 {σ : St} {a : Int32} (ha : vp_in a 24) (hk : rg (σ 15 a.toNatClampNeg) 4) : sp_6 a σ = rt (due (σ 15 a.toNatClampNeg)) σ := by
  unfold sp_6
  rw [mb_t ha, mb_t (rg_vp.mpr hk)]
  obtain ⟨j, hj, e⟩ := rg_of hk (by omega)
  rw [e, nI_cl (by omega)]
  rcases (show j = 0 ∨ j = 1 ∨ j = 2 ∨ j = 3 by omega) with rfl | rfl | rfl | rfl <;> rfl
theorem e129 {σ : St} {a : Int32} (ha : vp_in a 24) : sp_129 a σ = rt (due (σ 50 a.toNatClampNeg)) σ := by
  unfold sp_129 due
  rw [mb_t ha, mb_t ha]
  by_cases h2 : σ 50 a.toNatClampNeg = 2
  · rw [if_pos h2, if_pos h2]
  · rw [if_neg h2, if_neg h2]
    by_cases h3 : σ 50 a.toNatClampNeg = 3
    · rw [if_pos h3, if_pos h3]
    · rw [if_neg h3, if_neg h3]
theorem pr_1 : Pr_1 Inv := by
  intro a c σ hI
  obtain ⟨hS, hA, hT, hX, v, g, t, m, n, x, s, b, w, hC, hD⟩ := id hI
  have cv' := hC.1
  have hvm : σ 12 0 = nI v := hS.1.trans cv'.1
  have hk := hA.1
  unfold sp_4 sp_126
  rw [cv'.1, e1 a (by omega), bn_rt]
  simp only [bn_id, e1_4, e123_3, e5, e128, bn_rt, e2_1, e2_5, e125_1, e125_5, bI_i0]
  by_cases ha : rg a v
  · simp only [if_pos ha]
    have h24 := vp_le ha cv'.2
    have hrg : rg (σ 15 a.toNatClampNeg) 4 := by
      obtain ⟨i, hi, rfl⟩ := rg_of ha (by omega)
      rw [nI_cl (by omega)]
      exact (hD.1 i hi).1
    by_cases hc : rg c 4
    · simp only [if_pos hc]
      rw [mb_t h24]
      by_cases hu : und (σ 15 a.toNatClampNeg) c
      · rw [if_pos hu, e6 h24 hrg]
        refine P2_of rfl ?_ hI
        rw [e127 hvm cv'.2, bn_rt, bI_i0, if_pos ha, mb_t h24, hk, if_pos hu, e129 h24, hk]
      · rw [if_neg hu]
        refine P2_of rfl ?_ (inv_find hI 5)
        rw [e127 (σ := fT 5 σ) hvm cv'.2, bn_rt, bI_i0, if_pos ha, mb_t h24, show fT 5 σ 50 = σ 15 from hk, if_neg hu]
    · simp only [if_neg hc]
      exact P2_of rfl (by rw [e127 (σ := fT 1 σ) hvm cv'.2, bn_rt, bI_i0, if_pos ha]) (inv_find hI 1)
  · simp only [if_neg ha]
    exact P2_of rfl (by rw [e127 (σ := fT 1 σ) hvm cv'.2, bn_rt, bI_i0, if_neg ha]) (inv_find hI 1)
/-- the garage of a test -/
theorem e24 {σ : St} {m t n : Nat} (hm : σ 2 8 = nI m) (h30 : m ≤ 30) (ht8 : t ≤ 8) (hn80 : n ≤ 80) (hd : ∀ i, i < n → rg (σ 25 i) t) {i : Nat} (hi : i < n) : sp_24 (nI i) σ = rt (plc (σ 20) (σ 21) (σ 22) (σ 23) m (σ 25 i) (σ 26 i)) σ := by
  unfold sp_24
  have hv := vp_in_nI (show i < 80 by omega) (show 80 < 2 ^ 31 by omega)
  rw [mb_t hv, mb_t hv, nI_cl (by omega), e14 hm h30 (vp_le (hd i hi) ht8), bn_rt]
theorem e141 {σ : St} {m t n : Nat} (hm : σ 12 3 = nI m) (h30 : m ≤ 30) (ht8 : t ≤ 8) (hn80 : n ≤ 80) (hd : ∀ i, i < n → rg (σ 60 i) t) {i : Nat} (hi : i < n) : sp_141 (nI i) σ = rt (plc (σ 55) (σ 56) (σ 57) (σ 58) m (σ 60 i) (σ 61 i)) σ := by
  unfold sp_141
  have hv := vp_in_nI (show i < 80 by omega) (show 80 < 2 ^ 31 by omega)
  rw [mb_t hv, mb_t hv, nI_cl (by omega), e135 hm h30 (vp_le (hd i hi) ht8), bn_rt]
