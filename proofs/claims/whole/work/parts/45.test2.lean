/-! pairs: test -/
def tsT (σ : St) (n W T Hw : Nat) (y : Int32) (B : Nat) : St := up (up (up (up (up (up (up (up (up (up (up σ 24 n (nI (W / 100))) 25 n (nI (W % 100))) 26 n (nI (T % 10000))) 27 n (nI (T / 10000))) 28 n (nI (Hw / 1000))) 29 n y) 30 n (nI (B / 1000))) 31 n (nI (B % 1000))) 32 n (nI (Hw % 1000 % 256))) 33 n (nI (Hw % 1000 / 256))) 3 14 (nI (n + 1))
def tsM (τ : St) (n W T Hw : Nat) (y : Int32) (B : Nat) : St := up (up (up (up (up (up (up (up (up (up (up (up (up (up τ 59 n (nI (W / 100))) 60 n (nI (W % 100))) 61 n (nI (T % 10000))) 62 n (nI (T / 10000))) 63 n (nI (Hw / 1000))) 70 n (nI (Hw % 1000 / 256))) 67 n (nI (Hw % 1000 % 256))) 64 n y) 65 n (nI (B / 1000))) 66 n (nI (B % 1000))) 68 n (-1)) 69 n 0) 71 n 0) 12 4 (nI (n + 1))
theorem upd_same {f : Nat → Int32} {n : Nat} {z : Int32} (h : f n = z) : upd f n z = f := by
  funext k
  unfold upd
  split
  · next e => rw [e, h]
  · rfl
theorem e22 {σ : St} {n W T Hw B : Nat} (hn : σ 3 14 = nI n) (h80 : n < 80) (hW : W < 2 ^ 31) (hT : T < 2 ^ 31) (hH : Hw < 2 ^ 31) (hB : B < 2 ^ 31) (y : Int32) : sp_22 (nI W) (nI T) (nI Hw) y (nI B) σ = rt (nI n) (tsT σ n W T Hw y B) := by
  obtain ⟨k1, k2, _⟩ := dv_nI hW
  obtain ⟨_, _, _, _, k5, k6, _⟩ := dv_nI hT
  obtain ⟨_, _, k3, k4, _⟩ := dv_nI hH
  obtain ⟨_, _, b3, b4, _⟩ := dv_nI hB
  obtain ⟨_, _, _, _, _, _, k7, k8⟩ := dv_nI (a := Hw % 1000) (by omega)
  have hv := vp_in_nI h80 (show 80 < 2 ^ 31 by omega)
  unfold sp_22 tsT
  simp only [hn, mb_t hv, mb_t nz100, mb_t nz1000, mb_t nz10000, mb_t nz256, nI_cl (show n < 2 ^ 31 by omega), k1, k2, k3, k4, k5, k6, k7, k8, b3, b4, nI_1, show nI (n + 1) - 1 = nI n from nI_pred n]
theorem e137 {τ : St} {n W T Hw B : Nat} (hn : τ 12 4 = nI n) (h80 : n < 80) (hW : W < 2 ^ 31) (hT : T < 2 ^ 31) (hH : Hw < 2 ^ 31) (hB : B < 2 ^ 31) (hf : Hw % 1000 < 512) (y : Int32) (h : sp_138 (nI W) (nI T) (nI Hw) y (nI B) τ = rt 1 τ) : sp_137 (nI W) (nI T) (nI Hw) y (nI B) τ = rt (nI n) (tsM τ n W T Hw y B) := by
  obtain ⟨k1, k2, _⟩ := dv_nI hW
  obtain ⟨_, _, _, _, k5, k6, _⟩ := dv_nI hT
  obtain ⟨_, _, k3, k4, _⟩ := dv_nI hH
  obtain ⟨_, _, b3, b4, _⟩ := dv_nI hB
  obtain ⟨_, _, _, _, _, _, k7, k8⟩ := dv_nI (a := Hw % 1000) (by omega)
  have hv := vp_in_nI h80 (show 80 < 2 ^ 31 by omega)
  have hne : ¬ nI n = 80 := by
    show ¬ nI n = nI 80
    rw [nI_eq (by omega) (by omega)]
    omega
  have c1 : (nI (Hw % 1000) ≤ 255) = (Hw % 1000 ≤ 255) := propext (nI_leI (b := 255) (by omega) (by omega))
  unfold sp_137 tsM
  simp only [h, bn_rt, eq_false n10, if_false, hn, if_neg hne, mb_t hv, mb_t nz100, mb_t nz1000, mb_t nz10000, mb_t nz256, nI_cl (show n < 2 ^ 31 by omega), k1, k2, k3, k4, k5, k6, k7, k8, b3, b4, nI_1, show nI (n + 1) - 1 = nI n from nI_pred n, mb_T, true_or, or_true, c1]
  by_cases p : Hw % 1000 ≤ 255
  · rw [if_pos p, show Hw % 1000 / 256 = 0 by omega]
    rfl
  · rw [if_neg p, show Hw % 1000 / 256 = 1 by omega]
    rfl
theorem tsW {σ : St} {v g t m n x s b w W T Hw B : Nat} {y : Int32} (H : Wf σ v g t m n x s b w) (h80 : n < 80) (hv : W / 100 < v) (ht : W % 100 < t) (hB : B < 1000000) (hC : tC σ n W T Hw y (nI B)) : Wf (tsM (tsT σ n W T Hw y B) n W T Hw y B) v g t m (n + 1) x s b w := by
  have hv2 := H.v2
  have ht2 := H.t2
  have hz := H.dz n
  have hzn := hz.2.2.2 (Nat.le_refl n)
  obtain ⟨hS, hA, hT, hY, hCn, hD⟩ := id H
  obtain ⟨q0, q1, q2, q3, q4, q5⟩ := hS
  obtain ⟨t1, t2, t3, t4, t5, t6, t7, t8, t9, t10, t11, t12, t13⟩ := hT
  obtain ⟨c1, c2, c3, c4, c5, c6⟩ := hCn
  obtain ⟨d1, d2, d3, d4, d5, d6, d7, d8, d9⟩ := hD
  obtain ⟨⟨p1, p2, p3⟩, ⟨p4, p5, p6, p7⟩, p8, p9⟩ := hC
  refine ⟨⟨q0, q1, q2, q3, rfl, q5⟩, hA, ⟨?_, ?_, ?_, ?_, ?_, ?_, ?_, ?_, ?_, ?_, ?_, ?_, t13⟩, hY, ⟨c1, c2, c3, c4, ⟨rfl, by omega⟩, c6⟩, d1, d2, ?_, ?_, d5, d6, d7, d8, ?_⟩
  · show upd (σ 59) n (nI (W / 100)) = upd (σ 24) n (nI (W / 100))
    rw [t1]
  · show upd (σ 60) n (nI (W % 100)) = upd (σ 25) n (nI (W % 100))
    rw [t2]
  · show upd (σ 61) n (nI (T % 10000)) = upd (σ 26) n (nI (T % 10000))
    rw [t3]
  · show upd (σ 62) n (nI (T / 10000)) = upd (σ 27) n (nI (T / 10000))
    rw [t4]
  · show upd (σ 63) n (nI (Hw / 1000)) = upd (σ 28) n (nI (Hw / 1000))
    rw [t5]
  · show upd (σ 64) n y = upd (σ 29) n y
    rw [t6]
  · show upd (σ 65) n (nI (B / 1000)) = upd (σ 30) n (nI (B / 1000))
    rw [t7]
  · show upd (σ 66) n (nI (B % 1000)) = upd (σ 31) n (nI (B % 1000))
    rw [t8]
  · show upd (σ 67) n (nI (Hw % 1000 % 256)) = upd (σ 32) n (nI (Hw % 1000 % 256))
    rw [t9]
  · show upd (σ 69) n 0 = σ 36
    rw [t10, upd_same hzn.2.2]
  · show upd (σ 70) n (nI (Hw % 1000 / 256)) = upd (σ 33) n (nI (Hw % 1000 / 256))
    rw [t11]
  · show upd (σ 71) n 0 = σ 34
    rw [t12, upd_same hzn.1]
  · intro i hi
    show (rg (upd (σ 24) n (nI (W / 100)) i) v ∧ rg (upd (σ 25) n (nI (W % 100)) i) t ∧ rg (upd (σ 26) n (nI (T % 10000)) i) 10000 ∧ rg (upd (σ 27) n (nI (T / 10000)) i) 1440 ∧ rg (upd (σ 28) n (nI (Hw / 1000)) i) 241 ∧ rg (upd (σ 29) n y i) 1000000) ∧ (rg (upd (σ 30) n (nI (B / 1000)) i) 1000 ∧ rg (upd (σ 31) n (nI (B % 1000)) i) 1000 ∧ rg (upd (σ 32) n (nI (Hw % 1000 % 256)) i) 256 ∧ rg (upd (σ 33) n (nI (Hw % 1000 / 256)) i) 2) ∧ rg (σ 35 i) (s + 1) ∧ upd (σ 68) n (-1) i = σ 35 i - 1
    by_cases e : i = n
    · rw [e]
      simp only [pk_us]
      refine ⟨⟨rg_nI hv (by omega), rg_nI ht (by omega), rg_nI (Nat.mod_lt _ (by omega)) (by omega), rg_nI p1 (by omega), rg_nI (by omega) (by omega), ?_⟩, ⟨rg_nI (by omega) (by omega), rg_nI (by omega) (by omega), rg_nI (by omega) (by omega), rg_nI (by omega) (by omega)⟩, ?_, ?_⟩
      · by_cases k3 : σ 15 (W / 100) = 3
        · rw [if_pos k3] at p8
          rw [p8]
          decide
        · rw [if_neg k3] at p8
          exact p8
      · rw [hzn.2.1]
        exact rg_nI (i := 0) (by omega) (by have := H.s2; omega)
      · rw [hzn.2.1]
        rfl
    · simp only [pk_un e]
      exact d3 i (by omega)
  · intro i
    obtain ⟨z1, z2, z3, z4⟩ := d4 i
    exact ⟨z1, z2, z3, fun hk => z4 (by omega)⟩
  · show σ 3 15 = nI (dr (σ 36) n + (if σ 36 n = 0 then 0 else 1))
    rw [if_pos hzn.2.2]
    exact d9
theorem pr_6 : Pr_6 Inv := by
  intro a c d y br σ hI
  obtain ⟨v, g, t, m, n, x, s, b, w, H⟩ := inv_wf hI
  have H1 := H.ft 1
  have hn := H.n2
  have bad : ∀ r : MR, (sp_16 a c d y br σ = rt (-1000001) (fT 1 σ)) → sp_138 a c d y br (fT 1 σ) = rt 0 (fT 1 σ) → P2 (sp_16 a c d y br σ) (fun σ1 => sp_137 a c d y br σ1) Inv := by
    intro _ h1 h2
    refine p2_b1 hI h1 ?_
    show sp_137 a c d y br (fT 1 σ) = _
    unfold sp_137
    simp only [h2, bn_rt, if_true, e125_1]
  by_cases ha : a < 0
  · refine bad (rt 0 σ) ?_ (H1.e138n _ _ _ _ _ (Or.inl ha))
    unfold sp_16 sp_17
    simp only [if_pos ha, mb_T, true_or, bn_rt, if_true, e2_1]
  · obtain ⟨W, hW, rfl⟩ := nI_of ha
    by_cases hw : W / 100 < v ∧ W % 100 < t
    · by_cases hc : c < 0
      · refine bad (rt 0 σ) ?_ (H1.e138n _ _ _ _ _ (Or.inr (Or.inl hc)))
        unfold sp_16 sp_18
        simp only [H.e17 hW, bn_rt, if_bI hw, if_pos hc, mb_T, true_or, if_true, e2_1]
      · obtain ⟨T, hT, rfl⟩ := nI_of hc
        by_cases hd : d < 0
        · refine bad (rt 0 σ) ?_ (H1.e138n _ _ _ _ _ (Or.inr (Or.inr (Or.inl hd))))
          unfold sp_16 sp_20
          simp only [H.e17 hW, bn_rt, if_bI hw, H.e18 hW hT hw.1, bI_i0, if_pos hd, mb_T, true_or, if_true, e2_1, ite_self]
        · obtain ⟨Hw, hH, rfl⟩ := nI_of hd
          by_cases hC : tC σ n W T Hw y br
          · obtain ⟨B, hB, rfl⟩ := rg_of hC.2.2.2 (by omega)
            have h138 : ∀ τ, Wf τ v g t m n x s b w → (tC τ n W T Hw y (nI B)) → sp_138 (nI W) (nI T) (nI Hw) y (nI B) τ = rt 1 τ := by
              intro τ Hτ hCτ
              rw [Hτ.e138 rfl rfl rfl rfl hW hT hH hw.1 hw.2, bI_t hCτ]
            by_cases h80 : n < 80
            · have h1 : σ 3 14 < 80 := by rw [H.n1]; exact (nI_ltI (by omega) (show 80 < 2 ^ 31 by omega)).mpr h80
              have h8 := inv_8 hI
              have h10 := inv_10 hI
              have W2 := tsW H h80 hw.1 hw.2 hB hC
              refine P2_of (r := nI n) (σ1 := tsT σ n W T Hw y B) (σ2 := tsM (tsT σ n W T Hw y B) n W T Hw y B) ?_ ?_ (wf_inv W2 h8 h10)
              · unfold sp_16
                simp only [H.e17 hW, bn_rt, if_bI hw, H.e18 hW hT hw.1, if_bI hC.1, e20 hT hH hC.1.1, if_bI hC.2.1, H.e21 hW hw.1, if_bI hC.2.2.1, e1_M, if_bI hC.2.2.2, if_pos h1, e22 H.n1 h80 hW hT hH (show B < 2 ^ 31 by omega)]
              · show sp_137 (nI W) (nI T) (nI Hw) y (nI B) (tsT σ n W T Hw y B) = _
                refine e137 (τ := tsT σ n W T Hw y B) H.mn h80 hW hT hH (by omega) hC.2.1.1 y ?_
                have e := H.e138 (τ := tsT σ n W T Hw y B) rfl rfl rfl rfl hW hT hH hw.1 hw.2 y (nI B)
                rw [e, bI_t hC]
            · have h1 : ¬ σ 3 14 < 80 := by rw [H.n1]; exact fun z => h80 ((nI_ltI (by omega) (show 80 < 2 ^ 31 by omega)).mp z)
              have e80 : fT 4 σ 12 4 = 80 := by
                show σ 12 4 = nI 80
                rw [H.mn, nI_eq (by omega) (by omega)]
                omega
              refine p2_b4 hI ?_ ?_
              · unfold sp_16
                simp only [H.e17 hW, bn_rt, if_bI hw, H.e18 hW hT hw.1, if_bI hC.1, e20 hT hH hC.1.1, if_bI hC.2.1, H.e21 hW hw.1, if_bI hC.2.2.1, e1_M, if_bI hC.2.2.2, if_neg h1, e2_4]
              · show sp_137 (nI W) (nI T) (nI Hw) y (nI B) (fT 4 σ) = _
                have e := h138 (fT 4 σ) (H.ft 4) hC
                unfold sp_137
                simp only [e, bn_rt, eq_false n10, if_false, if_pos e80, e125_4]
          · refine bad (rt 0 σ) ?_ (by
              have hC' : ¬ tC (fT 1 σ) n W T Hw y br := hC
              rw [H1.e138 rfl rfl rfl rfl hW hT hH hw.1 hw.2, bI_f hC'])
            unfold sp_16
            by_cases p1 : T / 10000 < 1440 ∧ ¬ nI (T % 10000) < lsd σ n ∧ ¬ nI (T % 10000) < σ 17 (W / 100)
            · by_cases p2 : Hw % 1000 < 512 ∧ 1 ≤ Hw / 1000 ∧ Hw / 1000 ≤ 240 ∧ T / 10000 + Hw / 1000 ≤ 1440
              · by_cases p3 : if σ 15 (W / 100) = 3 then y = 0 else rg y 1000000
                · have p4 : ¬ rg br 1000000 := fun z => hC ⟨p1, p2, p3, z⟩
                  simp only [H.e17 hW, bn_rt, if_bI hw, H.e18 hW hT hw.1, if_bI p1, e20 hT hH p1.1, if_bI p2, H.e21 hW hw.1, if_bI p3, e1_M, bI_i0, if_neg p4, e2_1]
                · simp only [H.e17 hW, bn_rt, if_bI hw, H.e18 hW hT hw.1, if_bI p1, e20 hT hH p1.1, if_bI p2, H.e21 hW hw.1, bI_i0, if_neg p3, e2_1]
              · simp only [H.e17 hW, bn_rt, if_bI hw, H.e18 hW hT hw.1, if_bI p1, e20 hT hH p1.1, bI_i0, if_neg p2, e2_1]
            · simp only [H.e17 hW, bn_rt, if_bI hw, H.e18 hW hT hw.1, bI_i0, if_neg p1, e2_1]
    · refine bad (rt 0 σ) ?_ (H1.e138n _ _ _ _ _ (Or.inr (Or.inr (Or.inr ⟨W, hW, rfl, hw⟩))))
      unfold sp_16
      simp only [H.e17 hW, bn_rt, bI_i0, if_neg hw, e2_1]
