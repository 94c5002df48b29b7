/-! pairs: test -/
theorem e1_M (x : Int32) (σ : St) : sp_1 x 1000000 σ = rt (bI (rg x 1000000)) σ := e1 x (n := 1000000) (by omega) σ
theorem nz100 : ¬ (100 : Int32) = 0 := by decide
theorem nz1000 : ¬ (1000 : Int32) = 0 := by decide
theorem nz10000 : ¬ (10000 : Int32) = 0 := by decide
theorem nz256 : ¬ (256 : Int32) = 0 := by decide
theorem dv_nI {a : Nat} (ha : a < 2 ^ 31) : nI a / 100 = nI (a / 100) ∧ nI a - nI (a / 100) * 100 = nI (a % 100) ∧ nI a / 1000 = nI (a / 1000) ∧ nI a - nI (a / 1000) * 1000 = nI (a % 1000) ∧ nI a / 10000 = nI (a / 10000) ∧ nI a - nI (a / 10000) * 10000 = nI (a % 10000) ∧ nI a / 256 = nI (a / 256) ∧ nI a - nI (a / 256) * 256 = nI (a % 256) := by
  have h1 : nI a / 100 = nI (a / 100) := pk_div (d := 100) ha (by omega) (by omega)
  have h2 : nI a - nI a / 100 * 100 = nI (a % 100) := pk_rem (d := 100) ha (by omega) (by omega)
  have h3 : nI a / 1000 = nI (a / 1000) := pk_div (d := 1000) ha (by omega) (by omega)
  have h4 : nI a - nI a / 1000 * 1000 = nI (a % 1000) := pk_rem (d := 1000) ha (by omega) (by omega)
  have h5 : nI a / 10000 = nI (a / 10000) := pk_div (d := 10000) ha (by omega) (by omega)
  have h6 : nI a - nI a / 10000 * 10000 = nI (a % 10000) := pk_rem (d := 10000) ha (by omega) (by omega)
  have h7 : nI a / 256 = nI (a / 256) := pk_div (d := 256) ha (by omega) (by omega)
  have h8 : nI a - nI a / 256 * 256 = nI (a % 256) := pk_rem (d := 256) ha (by omega) (by omega)
  rw [h1] at h2
  rw [h3] at h4
  rw [h5] at h6
  rw [h7] at h8
  exact ⟨h1, h2, h3, h4, h5, h6, h7, h8⟩
/-- the day of the last test -/
def lsd (σ : St) (n : Nat) : Int32 := if n = 0 then 0 else σ 26 (n - 1)
/-- the checks of a test that has a vehicle and a tester -/
abbrev tC (σ : St) (n W T Hw : Nat) (mi br : Int32) : Prop := (T / 10000 < 1440 ∧ ¬ nI (T % 10000) < lsd σ n ∧ ¬ nI (T % 10000) < σ 17 (W / 100)) ∧ (Hw % 1000 < 512 ∧ 1 ≤ Hw / 1000 ∧ Hw / 1000 ≤ 240 ∧ T / 10000 + Hw / 1000 ≤ 1440) ∧ (if σ 15 (W / 100) = 3 then mi = 0 else rg mi 1000000) ∧ rg br 1000000
section
variable {σ : St} {v g t m n x s b w : Nat}
theorem Wf.e19 (H : Wf σ v g t m n x s b w) : sp_19 σ = rt (lsd σ n) σ := by
  have hn := H.n2
  unfold sp_19 lsd
  rw [H.n1]
  cases n with
  | zero => rw [if_pos (by decide), if_pos rfl]
  | succ k =>
    rw [if_neg (nI_nle (by omega) (by omega)), if_neg (show ¬ k + 1 = 0 by omega), nI_pred, mb_t (vp_in_nI (by omega) (by omega)), nI_cl (by omega)]
    rfl
/-- the model's check of the last day -/
theorem Wf.ld (H : Wf σ v g t m n x s b w) {τ : St} (h12 : τ 12 = σ 12) (h61 : τ 61 = σ 61) (D : Nat) (hD : D < 10000) (R Z : MR) : (if τ 12 4 ≤ 0 then R else mb (vp_in (τ 12 4 - 1) 80) (if τ 61 (τ 12 4 - 1).toNatClampNeg ≤ nI D then R else Z)) = if nI D < lsd σ n then Z else R := by
  have hn := H.n2
  unfold lsd
  rw [h12, h61, H.mn, H.a61]
  cases n with
  | zero => rw [if_pos (by decide), if_pos rfl, if_neg (nI_pos (by omega))]
  | succ k =>
    rw [if_neg (nI_nle (by omega) (by omega)), if_neg (show ¬ k + 1 = 0 by omega), nI_pred, mb_t (vp_in_nI (by omega) (by omega)), nI_cl (by omega)]
    by_cases h : nI D < σ 26 k
    · rw [if_neg (Int32.not_le.mpr h)]
      show _ = if nI D < σ 26 k then Z else R
      rw [if_pos h]
    · rw [if_pos (Int32.not_lt.mp h)]
      show _ = if nI D < σ 26 k then Z else R
      rw [if_neg h]
theorem Wf.e17 (H : Wf σ v g t m n x s b w) {W : Nat} (hW : W < 2 ^ 31) : sp_17 (nI W) σ = rt (bI (W / 100 < v ∧ W % 100 < t)) σ := by
  have hv := H.v2
  have ht := H.t2
  obtain ⟨k1, k2, _⟩ := dv_nI hW
  unfold sp_17
  rw [k1, k2, if_neg (nI_pos hW), mb_t nz100, mb_t nz100, mb_t b00, mb_t b11, H.v1, H.t1, rt_bI]
  by_cases h1 : W / 100 < v
  · rw [if_neg (nI_ge h1 (by omega))]
    by_cases h2 : W % 100 < t
    · rw [if_neg (nI_ge h2 (by omega)), if_pos ⟨h1, h2⟩]
    · rw [if_pos (nI_le (by omega) (by omega)), if_neg (fun z => h2 z.2)]
  · rw [if_pos (nI_le (by omega) (by omega)), if_neg (fun z => h1 z.1)]
theorem Wf.e18 (H : Wf σ v g t m n x s b w) {W T : Nat} (hW : W < 2 ^ 31) (hT : T < 2 ^ 31) (hv : W / 100 < v) : sp_18 (nI W) (nI T) σ = rt (bI (T / 10000 < 1440 ∧ ¬ nI (T % 10000) < lsd σ n ∧ ¬ nI (T % 10000) < σ 17 (W / 100))) σ := by
  have hv2 := H.v2
  obtain ⟨k1, _⟩ := dv_nI hW
  obtain ⟨_, _, _, _, k5, k6, _⟩ := dv_nI hT
  have h1440 : (nI (T / 10000) < 1440) = (T / 10000 < 1440) := propext (nI_ltI (by omega) (show 1440 < 2 ^ 31 by omega))
  unfold sp_18
  rw [k1, k5, k6, if_neg (nI_pos hT), mb_t nz10000, mb_t nz10000, H.e19, bn_rt, mb_t nz100, mb_t (vp_in_nI (show W / 100 < 24 by omega) (by omega)), nI_cl (by omega)]
  simp only [mb_T, true_or, or_true, rt_bI, it_and, it_not, h1440]
theorem e20 {T Hw : Nat} (hT : T < 2 ^ 31) (hH : Hw < 2 ^ 31) (h14 : T / 10000 < 1440) : sp_20 (nI T) (nI Hw) σ = rt (bI (Hw % 1000 < 512 ∧ 1 ≤ Hw / 1000 ∧ Hw / 1000 ≤ 240 ∧ T / 10000 + Hw / 1000 ≤ 1440)) σ := by
  obtain ⟨_, _, _, _, k5, _⟩ := dv_nI hT
  obtain ⟨_, _, k3, k4, _⟩ := dv_nI hH
  have c1 : (nI (Hw % 1000) < 512) = (Hw % 1000 < 512) := propext (nI_ltI (b := 512) (by omega) (by omega))
  have c2 : (nI (Hw / 1000) < 1) = ¬ (1 ≤ Hw / 1000) := propext ⟨fun z => by have := (nI_ltI (b := 1) (by omega) (by omega)).mp z; omega, fun z => (nI_ltI (b := 1) (by omega) (by omega)).mpr (by omega)⟩
  have c3 : (240 < nI (Hw / 1000)) = ¬ (Hw / 1000 ≤ 240) := propext ⟨fun z => by have := (nI_ltI (a := 240) (by omega) (by omega)).mp z; omega, fun z => (nI_ltI (a := 240) (by omega) (by omega)).mpr (by omega)⟩
  have c4 : (1440 < nI (T / 10000 + Hw / 1000)) = ¬ (T / 10000 + Hw / 1000 ≤ 1440) := propext ⟨fun z => by have := (nI_ltI (a := 1440) (by omega) (by omega)).mp z; omega, fun z => (nI_ltI (a := 1440) (by omega) (by omega)).mpr (by omega)⟩
  unfold sp_20
  simp only [k3, k4, k5, if_neg (nI_pos hH), mb_t nz1000, mb_t nz10000, mb_T, true_or, or_true, nI_add, rt_bI, c1, c2, c3, c4, it_not, it_and]
theorem Wf.e21 (H : Wf σ v g t m n x s b w) {W : Nat} (hW : W < 2 ^ 31) (hv : W / 100 < v) (y : Int32) : sp_21 (nI W) y σ = rt (bI (if σ 15 (W / 100) = 3 then y = 0 else rg y 1000000)) σ := by
  have hv2 := H.v2
  obtain ⟨k1, _⟩ := dv_nI hW
  unfold sp_21
  rw [k1, mb_t nz100, mb_t (vp_in_nI (show W / 100 < 24 by omega) (by omega)), nI_cl (by omega), e1_M, bn_rt, mb_t (bI_01 _), mb_t b00, mb_t b11]
  by_cases h : σ 15 (W / 100) = 3
  · simp only [if_pos h, rt_bI]
  · simp only [if_neg h]
theorem e123_00 (x : Int32) (σ : St) : sp_123 x 0 0 σ = rt (bI (x = 0)) σ := by
  have h := e123 x (n := 0) (by omega) σ
  rw [show nI 0 = 0 from rfl] at h
  rw [h]
  congr 1
  apply bI_c
  constructor
  · intro z
    obtain ⟨j, hj, e⟩ := rg_of z (by omega)
    rw [e, show j = 0 by omega]
    rfl
  · rintro rfl
    decide
theorem e123_M (x : Int32) (σ : St) : sp_123 x 0 999999 σ = rt (bI (rg x 1000000)) σ := e123 x (n := 999999) (by omega) σ
theorem Wf.e138 (H : Wf σ v g t m n x s b w) {τ : St} (h12 : τ 12 = σ 12) (h50 : τ 50 = σ 50) (h52 : τ 52 = σ 52) (h61 : τ 61 = σ 61) {W T Hw : Nat} (hW : W < 2 ^ 31) (hT : T < 2 ^ 31) (hH : Hw < 2 ^ 31) (hv : W / 100 < v) (ht : W % 100 < t) (y br : Int32) : sp_138 (nI W) (nI T) (nI Hw) y br τ = rt (bI (tC σ n W T Hw y br)) τ := by
  have qv : ∀ a, sp_127 a τ = rt (bI (rg a v)) τ := fun a => e127 (by rw [h12]; exact H.mv) H.v2 a
  have qt : ∀ a, sp_134 a τ = rt (bI (rg a t)) τ := fun a => e134 (by rw [h12]; exact H.mt) H.t2 a
  have hv2 := H.v2
  have ht2 := H.t2
  obtain ⟨k1, k2, _⟩ := dv_nI hW
  obtain ⟨_, _, _, _, k5, k6, _⟩ := dv_nI hT
  obtain ⟨_, _, k3, k4, _⟩ := dv_nI hH
  have rv : rg (nI (W / 100)) v := rg_nI hv (by omega)
  have rT : rg (nI (W % 100)) t := rg_nI ht (by omega)
  have c1 : (1439 < nI (T / 10000)) = ¬ (T / 10000 < 1440) := propext ⟨fun z => by have := (nI_ltI (a := 1439) (by omega) (by omega)).mp z; omega, fun z => (nI_ltI (a := 1439) (by omega) (by omega)).mpr (by omega)⟩
  have c2 : (511 < nI (Hw % 1000)) = ¬ (Hw % 1000 < 512) := propext ⟨fun z => by have := (nI_ltI (a := 511) (by omega) (by omega)).mp z; omega, fun z => (nI_ltI (a := 511) (by omega) (by omega)).mpr (by omega)⟩
  have c3 : sp_123 (nI (Hw / 1000)) 1 240 τ = rt (bI (1 ≤ Hw / 1000 ∧ Hw / 1000 ≤ 240)) τ := by
    by_cases z1 : nI (Hw / 1000) < 1
    · rw [e123_lo z1, bI_f]
      intro q
      have := (nI_ltI (b := 1) (by omega) (by omega)).mp z1
      omega
    · by_cases z2 : 240 < nI (Hw / 1000)
      · rw [e123_hi z2, bI_f]
        intro q
        have := (nI_ltI (a := 240) (by omega) (by omega)).mp z2
        omega
      · rw [e123_in z1 z2, bI_t]
        constructor
        · apply Decidable.byContradiction
          intro q
          exact z1 ((nI_ltI (b := 1) (by omega) (by omega)).mpr (by omega))
        · apply Decidable.byContradiction
          intro q
          exact z2 ((nI_ltI (a := 240) (by omega) (by omega)).mpr (by omega))
  have c4 : (nI (T / 10000 + Hw / 1000) ≤ 1440) = (T / 10000 + Hw / 1000 ≤ 1440) := propext (nI_leI (b := 1440) (by omega) (by omega))
  unfold sp_138
  simp only [if_neg (nI_pos hW), if_neg (nI_pos hT), if_neg (nI_pos hH), k1, k2, k3, k4, k5, k6, mb_t nz100, mb_t nz1000, mb_t nz10000, qv, bn_rt, if_bI rv, qt, if_bI rT, mb_t (vp_in_nI (show W / 100 < 24 by omega) (show 24 < 2 ^ 31 by omega)), nI_cl (show W / 100 < 2 ^ 31 by omega), mb_T, true_or, or_true, c3, nI_add, c1, c2, c4, h52.trans H.a52, h50.trans H.a50, e123_00, e123_M, bI_i0, H.ld h12 h61 (T % 10000) (Nat.mod_lt _ (by omega)), it_not]
  by_cases h0 : br < 0
  · rw [if_pos h0, bI_f]
    intro z
    have := xlt0.mp h0
    have := z.2.2.2.1
    omega
  · rw [if_neg h0]
    have hb : (1000000 ≤ br) = ¬ rg br 1000000 := propext ⟨fun z q => by have := (le_nI (x := br) (n := 1000000) (by omega)).mp z; have := q.2; omega, fun z => (le_nI (x := br) (n := 1000000) (by omega)).mpr (Int.not_lt.mp (fun q => z ⟨Int.not_lt.mp (fun p => h0 (xlt0.mpr p)), q⟩))⟩
    simp only [hb, it_not, rt_bI]
    by_cases p1 : T / 10000 < 1440
    · by_cases p2 : nI (T % 10000) < lsd σ n
      · simp only [if_pos p2, ite_self]
        rw [if_neg (fun z => z.1.2.1 p2)]
      · by_cases p3 : nI (T % 10000) < σ 17 (W / 100)
        · simp only [if_pos p3]
          rw [if_neg (fun z => z.1.2.2 p3)]
        · by_cases p4 : Hw % 1000 < 512
          · by_cases p5 : 1 ≤ Hw / 1000 ∧ Hw / 1000 ≤ 240
            · by_cases p6 : T / 10000 + Hw / 1000 ≤ 1440
              · simp only [if_neg p2, if_neg p3, if_pos p1, if_pos p4, if_pos p5, if_pos p6]
                by_cases p7 : σ 15 (W / 100) = 3
                · by_cases p8 : y = 0
                  · by_cases p9 : rg br 1000000
                    · rw [if_pos p7, if_pos p8, if_pos p9, if_pos ⟨⟨p1, p2, p3⟩, ⟨p4, p5.1, p5.2, p6⟩, by rw [if_pos p7]; exact p8, p9⟩]
                    · rw [if_pos p7, if_pos p8, if_neg p9, if_neg (fun z => p9 z.2.2.2)]
                  · rw [if_pos p7, if_neg p8, if_neg (fun z => by have := z.2.2.1; rw [if_pos p7] at this; exact p8 this)]
                · by_cases p8 : rg y 1000000
                  · by_cases p9 : rg br 1000000
                    · rw [if_neg p7, if_pos p8, if_pos p9, if_pos ⟨⟨p1, p2, p3⟩, ⟨p4, p5.1, p5.2, p6⟩, by rw [if_neg p7]; exact p8, p9⟩]
                    · rw [if_neg p7, if_pos p8, if_neg p9, if_neg (fun z => p9 z.2.2.2)]
                  · rw [if_neg p7, if_neg p8, if_neg (fun z => by have := z.2.2.1; rw [if_neg p7] at this; exact p8 this)]
              · simp only [if_neg p6, ite_self]
                rw [if_neg (fun z => p6 z.2.1.2.2.2)]
            · simp only [if_neg p5, ite_self]
              rw [if_neg (fun z => p5 ⟨z.2.1.2.1, z.2.1.2.2.1⟩)]
          · simp only [if_neg p4, ite_self]
            rw [if_neg (fun z => p4 z.2.1.1)]
    · simp only [if_neg p1, ite_self]
      rw [if_neg (fun z => p1 z.1.1)]
/-- a test without a vehicle or a tester, or with a number below 0 -/
theorem Wf.e138n (H : Wf σ v g t m n x s b w) (a c d y br : Int32) (h : a < 0 ∨ c < 0 ∨ d < 0 ∨ ∃ W, W < 2 ^ 31 ∧ a = nI W ∧ ¬ (W / 100 < v ∧ W % 100 < t)) : sp_138 a c d y br σ = rt 0 σ := by
  have hv2 := H.v2
  have ht2 := H.t2
  unfold sp_138
  rcases h with h | h | h | ⟨W, hW, rfl, h⟩
  · rw [if_pos h, mb_t b00]
  · rw [if_pos h, mb_t b00]
    split <;> rfl
  · rw [if_pos h, mb_t b00]
    split
    · rfl
    · split <;> rfl
  · obtain ⟨k1, k2, _⟩ := dv_nI hW
    simp only [if_neg (nI_pos hW), k1, k2, mb_t nz100, H.qv, bn_rt, H.qt, bI_i0, mb_T, true_or]
    by_cases p : W / 100 < v
    · have q : ¬ rg (nI (W % 100)) t := by
        intro z
        have z := (rg_iff (by omega)).mp z
        exact h ⟨p, z⟩
      simp only [if_neg q, ite_self]
    · have q : ¬ rg (nI (W / 100)) v := by
        intro z
        have z := (rg_iff (by omega)).mp z
        exact p z
      simp only [if_neg q, ite_self]
end
