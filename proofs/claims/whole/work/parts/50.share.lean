/-! cells and shares; pairs: share -/
def ageF (y : Int32) : Int32 := if 3 ≤ y then (if 6 ≤ y then (if 10 ≤ y then 3 else 2) else 1) else 0
theorem ageF_rg (y : Int32) : rg (ageF y) 4 := by
  unfold ageF
  split
  · split
    · split <;> decide
    · decide
  · decide
def ce (σ : St) (i : Nat) : Int32 := ageF ((σ 26 i - σ 17 (σ 24 i).toNatClampNeg) / 365) * 4 + σ 16 (σ 24 i).toNatClampNeg
theorem nz365 : ¬ (365 : Int32) = 0 := by decide
theorem e65 {σ : St} {a : Int32} (ha : vp_in a 24) (d : Int32) : sp_65 a d σ = rt (ageF ((d - σ 17 a.toNatClampNeg) / 365)) σ := by
  unfold sp_65 ageF
  simp only [mb_t ha, mb_t nz365, rt_ite]
section
variable {σ : St} {v g t m n x s b w : Nat}
theorem Wf.e64 (H : Wf σ v g t m n x s b w) {i : Nat} (hi : i < n) : sp_64 (nI i) σ = rt (ce σ i) σ := by
  unfold sp_64 ce
  simp only [mb_t (H.i80 hi), H.icl hi, e65 (H.iv hi).2, bn_rt, mb_t (H.iv hi).2]
theorem Wf.e157 (H : Wf σ v g t m n x s b w) {i : Nat} (hi : i < n) : sp_157 (nI i) σ = rt (ce σ i) σ := by
  unfold sp_157 ce ageF
  simp only [mb_t (H.i80 hi), H.icl hi, H.a59, H.a61, H.a52, H.a51, mb_t (H.iv hi).2, mb_t nz365]
  by_cases h3 : 3 ≤ (σ 26 i - σ 17 (σ 24 i).toNatClampNeg) / 365
  · by_cases h6 : 6 ≤ (σ 26 i - σ 17 (σ 24 i).toNatClampNeg) / 365
    · by_cases h10 : 10 ≤ (σ 26 i - σ 17 (σ 24 i).toNatClampNeg) / 365
      · simp only [if_pos h3, if_pos h6, if_pos h10]
        rfl
      · simp only [if_pos h3, if_pos h6, if_neg h10]
        rfl
    · simp only [if_pos h3, if_neg h6]
      rfl
  · simp only [if_neg h3]
    rfl
theorem Wf.cerg (H : Wf σ v g t m n x s b w) {i : Nat} (hi : i < n) : rg (ce σ i) 16 := by
  unfold ce
  obtain ⟨p, hp, e1⟩ := rg_of (ageF_rg ((σ 26 i - σ 17 (σ 24 i).toNatClampNeg) / 365)) (by omega)
  obtain ⟨q, hq, e2⟩ := rg_of (H.dv _ (H.iv hi).1).2.1 (by omega)
  rw [e1, e2, show (4 : Int32) = nI 4 from rfl, pk_mul, nI_add]
  exact rg_nI (by omega) (by omega)
end
/-- tests and passed tests of a cell -/
abbrev ceP (σ : St) (c : Int32) (k : Nat) : Prop := ce σ k = c
def ceA (σ : St) (c : Int32) (j : Nat) : Int32 := cnt (ceP σ c) j
def ceG (σ : St) (c : Int32) (j : Nat) : Int32 := fol (fun k a => if ceP σ c k then a + σ 33 k else a) 0 j 0
theorem ceA_s (σ : St) (c : Int32) (j : Nat) : ceA σ c (j + 1) = if ceP σ c j then ceA σ c j + 1 else ceA σ c j := by
  unfold ceA cnt
  rw [fol_last, Nat.zero_add]
theorem ceG_s (σ : St) (c : Int32) (j : Nat) : ceG σ c (j + 1) = if ceP σ c j then ceG σ c j + σ 33 j else ceG σ c j := by
  unfold ceG
  rw [fol_last, Nat.zero_add]
def sh (σ : St) (n : Nat) (c : Int32) : Int32 := if ceA σ c n = 0 then -1 else 1000 * ceG σ c n / ceA σ c n
theorem ce_msk (σ : St) (i : Nat) : ce (msk σ) i = ce σ i := rfl
theorem ce_fr {σ τ : St} (h : Fr σ τ) (i : Nat) : ce τ i = ce σ i := by
  rw [← ce_msk τ, ← ce_msk σ, msk_fr h]
theorem sh_fr {σ τ : St} (h : Fr σ τ) (n : Nat) (c : Int32) : sh τ n c = sh σ n c := by
  have h1 : ∀ ρ : St, sh (msk ρ) n c = sh ρ n c := fun _ => rfl
  rw [← h1 τ, ← h1 σ, msk_fr h]
/-- all cells but two are as they were -/
def Ex2 (c1 c2 : Nat) (σ τ : St) : Prop := ∀ d, d ≠ c1 → d ≠ c2 → τ d = σ d
theorem Ex2.fr {c1 c2 : Nat} {σ τ : St} (h : Ex2 c1 c2 σ τ) (hc : scr c1 = true) (hc2 : scr c2 = true) : Fr σ τ := fun d hd => h d (fun e => by rw [e, hc] at hd; cases hd) (fun e => by rw [e, hc2] at hd; cases hd)
theorem up_43 (τ : St) (q : Nat) (a b : Int32) (c : Nat) : up (up τ 43 q a) 44 q b 43 c = upd (τ 43) q a c := rfl
theorem up_44 (τ : St) (q : Nat) (a b : Int32) (c : Nat) : up (up τ 43 q a) 44 q b 44 c = upd (τ 44) q b c := rfl
theorem Ex2.up2 {σ τ : St} (h : Ex2 43 44 σ τ) (q : Nat) (a b : Int32) : Ex2 43 44 σ (up (up τ 43 q a) 44 q b) := fun d h1 h2 => by
  rw [up_ne _ q b h2, up_ne _ q a h1]
  exact h d h1 h2
section
variable {σ : St} {v g t m n x s b w : Nat}
theorem Wf.e63 (H : Wf σ v g t m n x s b w) : ∃ τ, sp_63 σ = rt 0 τ ∧ Ex2 43 44 σ τ ∧ ∀ c, c < 16 → τ 43 c = ceA σ (nI c) n ∧ τ 44 c = ceG σ (nI c) n := by
  have hn := H.n2
  unfold sp_63
  have hz := iloop (fun f i τ => lp_63_2 f (nI i) τ) (fun j τ => Ex2 43 44 σ τ ∧ ∀ c, c < j → τ 43 c = 0 ∧ τ 44 c = 0) 16 ?_ 16 0 FU σ (by omega) (FU_big (by omega)) ⟨fun _ _ _ => rfl, fun i hi => absurd hi (by omega)⟩
  · obtain ⟨k, τ, ⟨h1, h2⟩, e⟩ := hz
    have e : lp_63_2 FU (nI 0) σ = lp_63_2 (k + 1) (nI 16) τ := e
    have hl := iloop (fun f i τ => lp_63_30 f (nI i) τ) (fun j τ => Ex2 43 44 σ τ ∧ ∀ c, c < 16 → τ 43 c = ceA σ (nI c) j ∧ τ 44 c = ceG σ (nI c) j) n ?_ n 0 FU τ (by omega) (FU_big (by omega)) ⟨h1, fun c hc => h2 c hc⟩
    · obtain ⟨k', ρ, ⟨h3, h4⟩, e'⟩ := hl
      refine ⟨ρ, ?_, h3, h4⟩
      show lp_63_2 FU (nI 0) σ = _
      rw [e, lp_63_2, if_pos (show (16 : Int32) ≤ nI 16 by decide)]
      show lp_63_30 FU (nI 0) τ = _
      rw [e']
      show lp_63_30 (k' + 1) (nI n) ρ = _
      rw [lp_63_30, (H.fr (h3.fr rfl rfl)).n1, if_pos (nI_le (Nat.le_refl n) (by omega))]
    · intro f j ρ hj ⟨h3, h4⟩
      have Hρ := H.fr (h3.fr rfl rfl)
      obtain ⟨q, hq, eq⟩ := rg_of (H.cerg hj) (by omega)
      have hv : vp_in (ce σ j) 16 := rg_vp.mpr (H.cerg hj)
      refine ⟨up (up ρ 43 q (ρ 43 q + 1)) 44 q (ρ 44 q + σ 33 j), ⟨h3.up2 q _ _, ?_⟩, ?_⟩
      · intro c hc
        rw [up_43, up_44, ceA_s, ceG_s]
        by_cases e1 : c = q
        · have e2 : ceP σ (nI c) j := by rw [e1]; exact eq
          rw [if_pos e2, if_pos e2, e1, pk_us, pk_us, (h4 q hq).1, (h4 q hq).2]
          exact ⟨rfl, rfl⟩
        · have e2 : ¬ ceP σ (nI c) j := by
            intro z
            have z : ce σ j = nI c := z
            rw [eq, nI_eq (by omega) (by omega)] at z
            exact e1 z.symm
          rw [if_neg e2, if_neg e2, pk_un e1, pk_un e1]
          exact h4 c hc
      · show lp_63_30 (f + 1) (nI j) ρ = lp_63_30 f (nI (j + 1)) _
        rw [lp_63_30, Hρ.n1, if_neg (nI_ge hj (by omega)), Hρ.e64 hj, bn_rt, ce_fr (h3.fr rfl rfl)]
        simp only [mb_t hv, mb_t (H.i80 hj), H.icl hj, nI_1, h3 33 (show 33 ≠ 43 by omega) (show 33 ≠ 44 by omega)]
        rw [eq, nI_cl (by omega)]
  · intro f j τ hj ⟨h1, h2⟩
    have hv := vp_in_nI hj (show 16 < 2 ^ 31 by omega)
    refine ⟨up (up τ 43 j 0) 44 j 0, ⟨h1.up2 j _ _, ?_⟩, ?_⟩
    · intro c hc
      rw [up_43, up_44]
      by_cases e1 : c = j
      · rw [e1, pk_us, pk_us]
        exact ⟨rfl, rfl⟩
      · rw [pk_un e1, pk_un e1]
        exact h2 c (by omega)
    · show lp_63_2 (f + 1) (nI j) τ = lp_63_2 f (nI (j + 1)) _
      rw [lp_63_2, if_neg (show ¬ (16 : Int32) ≤ nI j from nI_ge (b := 16) hj (show 16 < 2 ^ 31 by decide)), mb_t hv, mb_t hv, nI_cl (by omega), nI_1]
theorem ceA_rg (σ : St) (c : Int32) (n : Nat) : ∃ k, k ≤ n ∧ ceA σ c n = nI k := cnt_nat (ceP σ c) n
theorem Wf.cGrg (H : Wf σ v g t m n x s b w) (c : Int32) : ∀ j, j ≤ n → ∃ k, k ≤ j ∧ ceG σ c j = nI k
  | 0, _ => ⟨0, Nat.le_refl _, rfl⟩
  | j + 1, hj => by
    obtain ⟨k, hk, e⟩ := H.cGrg c j (by omega)
    obtain ⟨y, hy, ey⟩ := rg_of (H.i33 (show j < n by omega)) (by omega)
    rw [ceG_s, e, ey, nI_add]
    split
    · exact ⟨k + y, by omega, rfl⟩
    · exact ⟨k, by omega, rfl⟩
theorem Wf.e67 (H : Wf σ v g t m n x s b w) {τ : St} (h : ∀ c, c < 16 → τ 43 c = ceA σ (nI c) n ∧ τ 44 c = ceG σ (nI c) n) {c : Int32} (hc : rg c 16) : sp_67 c τ = rt (sh σ n c) τ := by
  have hn := H.n2
  obtain ⟨q, hq, rfl⟩ := rg_of hc (by omega)
  obtain ⟨k, hk, ek⟩ := ceA_rg σ (nI q) n
  unfold sp_67 sh
  have hv := vp_in_nI hq (show 16 < 2 ^ 31 by omega)
  rw [nI_cl (by omega), (h q hq).1, (h q hq).2, mb_t hv, mb_t hv, mb_t hv]
  by_cases z : ceA σ (nI q) n = 0
  · rw [if_pos z, z, if_pos (by decide)]
  · have z2 : ¬ ceA σ (nI q) n ≤ 0 := by
      rw [ek]
      refine nI_nle (Nat.pos_of_ne_zero ?_) (by omega)
      rintro rfl
      exact z ek
    rw [if_neg z, if_neg z2, mb_t z]
theorem fol_pr {f h : Nat → Int32 → Int32} : ∀ (j i : Nat) (a b : Int32), fol (fun k (p : Int32 × Int32) => (f k p.1, h k p.2)) i j (a, b) = (fol f i j a, fol h i j b)
  | 0, _, _, _ => rfl
  | j + 1, i, a, b => fol_pr j (i + 1) (f i a) (h i b)
theorem Wf.e156 (H : Wf σ v g t m n x s b w) (c : Int32) : sp_156 c σ = rt (sh σ n c) σ := by
  have hn := H.n2
  obtain ⟨k, hk, ek⟩ := ceA_rg σ c n
  unfold sp_156
  have hl := cloop (fun f i (p : Int32 × Int32) => lp_156_7 f c p.1 p.2 (nI i) σ) (fun k p => ((if ceP σ c k then p.1 + 1 else p.1), (if ceP σ c k then p.2 + σ 33 k else p.2))) (fun p => if p.1 = 0 then rt (-1) σ else mb (¬ p.1 = 0) (rt (1000 * p.2 / p.1) σ)) n ?_ ?_ n 0 FU (0, 0) (by omega) (FU_big (by omega))
  · have hl : lp_156_7 FU c 0 0 (nI 0) σ = _ := hl
    show lp_156_7 FU c 0 0 (nI 0) σ = _
    rw [hl, fol_pr (f := fun k a => if ceP σ c k then a + 1 else a) (h := fun k a => if ceP σ c k then a + σ 33 k else a)]
    show (if ceA σ c n = 0 then rt (-1) σ else mb (¬ ceA σ c n = 0) (rt (1000 * ceG σ c n / ceA σ c n) σ)) = _
    unfold sh
    by_cases z : ceA σ c n = 0
    · rw [if_pos z, if_pos z]
    · rw [if_neg z, if_neg z, mb_t z]
  · intro f p
    show lp_156_7 (f + 1) c p.1 p.2 (nI n) σ = _
    rw [lp_156_7, H.mn, if_pos (nI_le (Nat.le_refl n) (by omega))]
  · intro f i p hi
    show lp_156_7 (f + 1) c p.1 p.2 (nI i) σ = lp_156_7 f c (if ceP σ c i then p.1 + 1 else p.1) (if ceP σ c i then p.2 + σ 33 i else p.2) (nI (i + 1)) σ
    rw [lp_156_7, H.mn, if_neg (nI_ge hi (by omega)), H.e157 hi, bn_rt]
    simp only [mb_t (H.i80 hi), H.icl hi, H.a70, nI_1, Int32.add_zero]
    by_cases z : ce σ i = c
    · simp only [if_pos z]
      rcases H.p01 hi with e | e
      · rw [e, if_pos rfl, Int32.add_zero]
      · rw [e, if_neg n10]
    · simp only [if_neg z]
end
theorem pr_14 : Pr_14 Inv := by
  intro a c σ hI
  obtain ⟨v, g, t, m, n, x, s, b, w, H⟩ := inv_wf hI
  by_cases ha : rg a 4
  · by_cases hc : rg c 4
    · obtain ⟨τ, e, h1, h2⟩ := H.e63
      have f1 := h1.fr rfl rfl
      have Hτ := H.fr f1
      have hI' := inv_fr hI f1
      have hr : rg (a * 4 + c) 16 := by
        obtain ⟨p, hp, rfl⟩ := rg_of ha (by omega)
        obtain ⟨q, hq, rfl⟩ := rg_of hc (by omega)
        rw [show (4 : Int32) = nI 4 from rfl, pk_mul, nI_add]
        exact rg_nI (by omega) (by omega)
      have k67 := H.e67 h2 hr
      have k156 : ∀ ρ, Wf ρ v g t m n x s b w → sp_156 ((4 : Int32) * a + c) ρ = rt (sh ρ n (a * 4 + c)) ρ := by
        intro ρ Hρ
        rw [Hρ.e156, Int32.mul_comm]
      by_cases z : 0 ≤ sh σ n (a * 4 + c)
      · refine P2_of (r := sh σ n (a * 4 + c)) (σ1 := τ) (σ2 := τ) ?_ ?_ hI'
        · unfold sp_71 sp_72
          simp only [e1_4, bn_rt, if_bI ha, if_bI hc, e, k67, if_pos z]
        · show sp_155 a c τ = _
          unfold sp_155
          simp only [e123_3, bn_rt, if_bI ha, if_bI hc, k156 τ Hτ, sh_fr f1, if_pos z]
      · have k2 : sp_156 ((4 : Int32) * a + c) (fT 2 τ) = rt (sh τ n (a * 4 + c)) (fT 2 τ) := k156 (fT 2 τ) Hτ
        refine p2_b2 hI' ?_ ?_
        · unfold sp_71 sp_72
          simp only [e1_4, bn_rt, if_bI ha, if_bI hc, e, k67, if_neg z, e2_2]
        · show sp_155 a c (fT 2 τ) = _
          unfold sp_155
          simp only [e123_3, bn_rt, if_bI ha, if_bI hc, k2, sh_fr f1, if_neg z, e125_2]
    · refine p2_b1 hI ?_ ?_
      · unfold sp_71
        simp only [e1_4, bn_rt, if_bI ha, bI_i0, if_neg hc, e2_1]
      · show sp_155 a c (fT 1 σ) = _
        unfold sp_155
        simp only [e123_3, bn_rt, if_bI ha, bI_i0, if_neg hc, e125_1]
  · refine p2_b1 hI ?_ ?_
    · unfold sp_71
      simp only [e1_4, bn_rt, bI_i0, if_neg ha, e2_1]
    · show sp_155 a c (fT 1 σ) = _
      unfold sp_155
      simp only [e123_3, bn_rt, bI_i0, if_neg ha, e125_1]
