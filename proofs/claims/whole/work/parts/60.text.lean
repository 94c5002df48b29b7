/-! pairs: text -/
section
variable {tp : Nat → Int32} {b x : Nat}
theorem e_rows (hb : b ≤ 60) (hx : x < 6) : ∀ (j rows p : Nat) (lb gp : Int32) (fl : Nat → Int32), rows + j = 60 → rows ≤ p → p ≤ 5 * rows → ∃ r p' lb' gp' fl', (r = 0 ∨ r = 1) ∧ p' ≤ 400 ∧ ((∀ i, rg (fl i) 256) → ∀ i, rg (fl' i) 256) ∧ (∀ σ, CB tp b x σ → ∀ f, j < f → lp_31_7 f (nI rows) (cw σ x (nI p) lb gp fl) = rt r (cw σ x (nI p') lb' gp' fl')) ∧ (∀ ρ, MB tp b x ρ → ∀ f z, j < f → lp_144_49 f (nI x) z (mw ρ x (nI p) lb gp fl) = rt r (mw ρ x (nI p') lb' gp' fl'))
  | 0, rows, p, lb, gp, fl, hj, h1, h2 => by
    refine ⟨1, p, lb, gp, fl, Or.inr rfl, by omega, fun h => h, ?_, ?_⟩
    · intro σ h f hf
      cases f with
      | zero => omega
      | succ f =>
        rw [lp_31_7, show rows = 60 by omega, if_pos (show (60 : Int32) ≤ nI 60 by decide), mb_t b11]
    · intro ρ h f z hf
      cases f with
      | zero => omega
      | succ f =>
        have e1' : mw ρ x (nI p) lb gp fl 12 9 = nI b := h.1
        rw [lp_144_49, e1', mw45, if_pos (nI_le (show b ≤ p by omega) (by omega)), mb_t b11]
  | j + 1, rows, p, lb, gp, fl, hj, h1, h2 => by
    have hne : ¬ (60 : Int32) ≤ nI rows := nI_ge (b := 60) (show rows < 60 by omega) (show 60 < 2 ^ 31 by decide)
    by_cases z : b ≤ p
    · refine ⟨1, p, lb, gp, fl, Or.inr rfl, by omega, fun h => h, ?_, ?_⟩
      · intro σ h f hf
        cases f with
        | zero => omega
        | succ f =>
          have e1' : cw σ x (nI p) lb gp fl 4 1 = nI b := h.1
          rw [lp_31_7, if_neg hne, e1', cw42, if_pos (nI_le z (by omega)), mb_t b11]
      · intro ρ h f y hf
        cases f with
        | zero => omega
        | succ f =>
          have e1' : mw ρ x (nI p) lb gp fl 12 9 = nI b := h.1
          rw [lp_144_49, e1', mw45, if_pos (nI_le z (by omega)), mb_t b11]
    · obtain ⟨r, p1, lb1, gp1, fl1, k1, k2, k3, k4, k5, k6, k7⟩ := e_row (tp := tp) (lb := lb) (gp := gp) (fl := fl) hb hx (p := p) (by omega)
      have stepC : ∀ σ, CB tp b x σ → ∀ f, lp_31_7 (f + 1) (nI rows) (cw σ x (nI p) lb gp fl) = if r = 0 then rt 0 (cw σ x (nI p1) lb1 gp1 fl1) else lp_31_7 f (nI (rows + 1)) (cw σ x (nI p1) lb1 gp1 fl1) := by
        intro σ h f
        have e1' : cw σ x (nI p) lb gp fl 4 1 = nI b := h.1
        rw [lp_31_7, if_neg hne, e1', cw42, if_neg (nI_ge (show p < b by omega) (by omega)), k6 σ h, bn_rt, mb_t b00, nI_1]
      have stepM : ∀ ρ, MB tp b x ρ → ∀ f y, lp_144_49 (f + 1) (nI x) y (mw ρ x (nI p) lb gp fl) = if r = 0 then rt 0 (mw ρ x (nI p1) lb1 gp1 fl1) else lp_144_49 f (nI x) (nx tp b p) (mw ρ x (nI p1) lb1 gp1 fl1) := by
        intro ρ h f y
        have e1' : mw ρ x (nI p) lb gp fl 12 9 = nI b := h.1
        have e2' := k7 ρ h (fun v1 v2 σ => lp_144_49 f v1 v2 σ)
        rw [lp_144_49, e1', mw45, if_neg (nI_ge (show p < b by omega) (by omega))]
        exact e2'
      rcases k1 with rfl | rfl
      · refine ⟨0, p1, lb1, gp1, fl1, Or.inl rfl, by omega, k5, ?_, ?_⟩
        · intro σ h f hf
          cases f with
          | zero => omega
          | succ f => rw [stepC σ h f, if_pos rfl]
        · intro ρ h f y hf
          cases f with
          | zero => omega
          | succ f => rw [stepM ρ h f y, if_pos rfl]
      · have hk := k3 rfl
        obtain ⟨r, p2, lb2, gp2, fl2, q1, q2, q3, q4, q5⟩ := e_rows hb hx j (rows + 1) p1 lb1 gp1 fl1 (by omega) (by omega) (by omega)
        refine ⟨r, p2, lb2, gp2, fl2, q1, q2, fun h => q3 (k5 h), ?_, ?_⟩
        · intro σ h f hf
          cases f with
          | zero => omega
          | succ f =>
            rw [stepC σ h f, if_neg n10]
            exact q4 σ h f (by omega)
        · intro ρ h f y hf
          cases f with
          | zero => omega
          | succ f =>
            rw [stepM ρ h f y, if_neg n10]
            exact q5 ρ h f _ (by omega)
end
theorem cw_0 (σ : St) (x : Nat) : up (up σ 40 x 0) 41 x 100 = cw σ x (σ 4 2) 0 100 (σ 42) := by
  funext c
  unfold up cw
  by_cases h1 : c = 4
  · subst h1
    rw [if_neg (by omega), if_neg (by omega), if_pos rfl]
    exact (upd_same rfl).symm
  · by_cases h2 : c = 40
    · subst h2
      rw [if_neg (by omega), if_pos rfl, if_neg (by omega), if_pos rfl]
    · by_cases h3 : c = 41
      · subst h3
        rw [if_pos rfl, if_neg (by omega), if_neg (by omega), if_neg (by omega), if_pos rfl]
      · by_cases h4 : c = 42
        · subst h4
          rw [if_neg (by omega), if_neg (by omega), if_neg (by omega), if_neg (by omega), if_neg (by omega), if_pos rfl]
        · rw [if_neg h3, if_neg h2, if_neg h1, if_neg h2, if_neg h3, if_neg h4]
theorem mw_0 (σ : St) (x : Nat) : up (up σ 74 x 0) 75 x 100 = mw σ x (σ 12 45) 0 100 (σ 76) := by
  funext c
  unfold up mw
  by_cases h1 : c = 12
  · subst h1
    rw [if_neg (by omega), if_neg (by omega), if_pos rfl]
    exact (upd_same rfl).symm
  · by_cases h2 : c = 74
    · subst h2
      rw [if_neg (by omega), if_pos rfl, if_neg (by omega), if_pos rfl]
    · by_cases h3 : c = 75
      · subst h3
        rw [if_pos rfl, if_neg (by omega), if_neg (by omega), if_neg (by omega), if_pos rfl]
      · by_cases h4 : c = 76
        · subst h4
          rw [if_neg (by omega), if_neg (by omega), if_neg (by omega), if_neg (by omega), if_neg (by omega), if_pos rfl]
        · rw [if_neg h3, if_neg h2, if_neg h1, if_neg h2, if_neg h3, if_neg h4]
/-- the fails of an empty text -/
def fl0 (x : Nat) (fl : Nat → Int32) : Nat → Int32 := fol (fun k h => upd h (x * 4 + k) 0) 0 4 fl
theorem fl0_rg {x : Nat} {fl : Nat → Int32} (h : ∀ i, rg (fl i) 256) : ∀ i, rg (fl0 x fl i) 256 := by
  unfold fl0
  refine fol_inv (P := fun h => ∀ i, rg (h i) 256) 4 0 fl h ?_
  intro k a _ _ ha i
  show rg (upd a (x * 4 + k) 0 i) 256
  unfold upd
  split
  · decide
  · exact ha i
theorem e30 {σ : St} {x : Nat} (h : σ 4 7 = nI x) (hx : x < 6) : sp_30 σ = rt 0 (cw σ x (σ 4 2) 0 100 (fl0 x (σ 42))) := by
  unfold sp_30
  have h6 := vp_in_nI hx (show 6 < 2 ^ 31 by omega)
  rw [h, mb_t h6, mb_t h6, nI_cl (by omega), cw_0]
  refine cloop (fun f k a => lp_30_23 f (nI k) (cw σ x (σ 4 2) 0 100 a)) (fun k a => upd a (x * 4 + k) 0) (fun a => rt 0 (cw σ x (σ 4 2) 0 100 a)) 4 ?_ ?_ 4 0 FU (σ 42) (by omega) (FU_big (by omega))
  · intro f a
    show lp_30_23 (f + 1) (nI 4) (cw σ x (σ 4 2) 0 100 a) = _
    rw [lp_30_23, if_pos (show (4 : Int32) ≤ nI 4 by decide)]
  · intro f k a hk
    show lp_30_23 (f + 1) (nI k) (cw σ x (σ 4 2) 0 100 a) = lp_30_23 f (nI (k + 1)) (cw σ x (σ 4 2) 0 100 (upd a (x * 4 + k) 0))
    have e47 : cw σ x (σ 4 2) 0 100 a 4 7 = nI x := h
    have eix : nI x * 4 + nI k = nI (x * 4 + k) := by rw [show (4 : Int32) = nI 4 from rfl, pk_mul, nI_add]
    rw [lp_30_23, if_neg (show ¬ (4 : Int32) ≤ nI k from nI_ge (b := 4) hk (show 4 < 2 ^ 31 by decide)), e47, eix, mb_t (vp_in_nI (show x * 4 + k < 24 by omega) (by omega)), nI_cl (by omega), cw_fl, nI_1]
theorem e144 {ρ : St} {x : Nat} (h : ρ 12 5 = nI x) (hx : x < 6) : sp_144 ρ = lp_144_49 FU (nI x) (nI 4) (mw ρ x (nI 0) 0 100 (fl0 x (ρ 76))) := by
  unfold sp_144
  have h7 := vp_in_nI (show x < 7 by omega) (show 7 < 2 ^ 31 by omega)
  rw [h, mb_t h7, mb_t h7, nI_cl (by omega), mw_0]
  refine cloop (fun f k a => lp_144_22 f (nI x) (nI k) (mw ρ x (ρ 12 45) 0 100 a)) (fun k a => upd a (x * 4 + k) 0) (fun a => lp_144_49 FU (nI x) (nI 4) (mw ρ x (nI 0) 0 100 a)) 4 ?_ ?_ 4 0 FU (ρ 76) (by omega) (FU_big (by omega))
  · intro f a
    show lp_144_22 (f + 1) (nI x) (nI 4) (mw ρ x (ρ 12 45) 0 100 a) = _
    rw [lp_144_22, if_pos (show (4 : Int32) ≤ nI 4 by decide), mw_p]
    rfl
  · intro f k a hk
    show lp_144_22 (f + 1) (nI x) (nI k) (mw ρ x (ρ 12 45) 0 100 a) = lp_144_22 f (nI x) (nI (k + 1)) (mw ρ x (ρ 12 45) 0 100 (upd a (x * 4 + k) 0))
    have eix : (4 : Int32) * nI x + nI k = nI (x * 4 + k) := by rw [show (4 : Int32) = nI 4 from rfl, pk_mul, nI_add, Nat.mul_comm]
    rw [lp_144_22, if_neg (show ¬ (4 : Int32) ≤ nI k from nI_ge (b := 4) hk (show 4 < 2 ^ 31 by decide)), eix, mb_t (vp_in_nI (show x * 4 + k < 28 by omega) (by omega)), nI_cl (by omega), mw_fl, nI_1]
theorem pr_9 : Pr_9 Inv := by
  intro d σ hI
  obtain ⟨v, g, t, m, n, x, s, b, w, H⟩ := inv_wf hI
  have hx6 := H.x2
  have hb := H.b2
  have h8 := inv_8 hI
  have h10 := inv_10 hI
  by_cases hd : rg d 10000
  · by_cases hx : x < 6
    · have h1 : σ 4 7 < 6 := by rw [H.x1]; exact (nI_ltI (by omega) (show 6 < 2 ^ 31 by omega)).mpr hx
      have hne : ¬ nI x = 6 := by
        show ¬ nI x = nI 6
        rw [nI_eq (by omega) (by omega)]
        omega
      have v6 := vp_in_nI hx (show 6 < 2 ^ 31 by omega)
      have v7 := vp_in_nI (show x < 7 by omega) (show 7 < 2 ^ 31 by omega)
      have hcl : (nI x).toNatClampNeg = x := nI_cl (by omega)
      obtain ⟨r, p, lb, gp, fl, k1, k2, k3, k4, k5⟩ := e_rows (tp := σ 38) (b := b) (x := x) hb hx 60 0 0 0 100 (fl0 x (σ 42)) (by omega) (by omega) (by omega)
      have hfl := k3 (fl0_rg H.df)
      have hC : CB (σ 38) b x σ := ⟨H.b1, H.x1, rfl⟩
      have kC : sp_31 (cw σ x (σ 4 2) 0 100 (fl0 x (σ 42))) = rt r (cw σ x (nI p) lb gp fl) := by
        unfold sp_31
        rw [cw_p]
        exact k4 σ hC FU (FU_big (by omega))
      have kM : ∀ ρ, MB (σ 38) b x ρ → ρ 76 = σ 42 → sp_144 ρ = rt r (mw ρ x (nI p) lb gp fl) := by
        intro ρ hρ h76
        rw [e144 hρ.2.1 hx, h76]
        exact k5 ρ hρ FU (nI 4) (FU_big (by omega))
      have c47 : cw σ x (nI p) lb gp fl 4 7 = nI x := H.x1
      rcases k1 with rfl | rfl
      · have W : Wf (up (mw (up (cw σ x (nI p) lb gp fl) 4 1 0) x (nI p) lb gp fl) 12 9 0) v g t m n x s 0 w := by
          obtain ⟨hS, hA, hT, hY, hC', hD⟩ := id H
          obtain ⟨q0, q1, q2, q3, q4, q5, q6, q7, q8, q9, q10⟩ := hS
          obtain ⟨y1, y2, y3, y4, y5, y6, y7⟩ := hY
          obtain ⟨c1, c2, c3, c4, c5, c6, c7, c8, c9⟩ := hC'
          obtain ⟨d1, d2, d3, d4, d5, d6⟩ := hD
          refine ⟨⟨q0, q1, q2, q3, q4, q5, q6, q7, q8, rfl, q10⟩, hA, hT, ⟨y1, ?_, ?_, rfl, y5, y6, y7⟩, ⟨c1, c2, c3, c4, c5, c6, c7, ⟨rfl, by omega⟩, c9⟩, d1, d2, d3, d4, hfl, d6⟩
          · show upd (σ 74) x lb = upd (σ 40) x lb
            rw [y2]
          · show upd (σ 75) x gp = upd (σ 41) x gp
            rw [y3]
        refine P2_of (r := -10 - nI p) (σ1 := up (cw σ x (nI p) lb gp fl) 4 1 0) (σ2 := up (mw (up (cw σ x (nI p) lb gp fl) 4 1 0) x (nI p) lb gp fl) 12 9 0) ?_ ?_ (wf_inv W h8 h10)
        · unfold sp_28 sp_29
          simp only [e1_d, bn_rt, if_bI hd, if_pos h1, e30 H.x1 hx, kC, if_true, cw42, if_pos (nI_pos' (show p < 2 ^ 31 by omega))]
        · have hM : MB (σ 38) b x (up (cw σ x (nI p) lb gp fl) 4 1 0) := ⟨H.mtb, H.mx, H.a78⟩
          have k6 := kM (up (cw σ x (nI p) lb gp fl) 4 1 0) hM H.a76
          have k7 : up (cw σ x (nI p) lb gp fl) 4 1 0 12 5 = nI x := H.mx
          show sp_143 d (up (cw σ x (nI p) lb gp fl) 4 1 0) = _
          unfold sp_143
          simp only [e124, bn_rt, if_bI hd, k7, if_neg hne, k6, if_true, mw45]
      · have W : Wf (up (up (up (mw (up (up (up (cw σ x (nI p) lb gp fl) 4 1 0) 39 x d) 4 7 (nI (x + 1))) x (nI p) lb gp fl) 12 9 0) 73 x d) 12 5 (nI (x + 1))) v g t m n (x + 1) s 0 w := by
          obtain ⟨hS, hA, hT, hY, hC', hD⟩ := id H
          obtain ⟨q0, q1, q2, q3, q4, q5, q6, q7, q8, q9, q10⟩ := hS
          obtain ⟨y1, y2, y3, y4, y5, y6, y7⟩ := hY
          obtain ⟨c1, c2, c3, c4, c5, c6, c7, c8, c9⟩ := hC'
          obtain ⟨d1, d2, d3, d4, d5, d6⟩ := hD
          refine ⟨⟨q0, q1, q2, q3, q4, rfl, q6, q7, q8, rfl, q10⟩, hA, hT, ⟨?_, ?_, ?_, rfl, y5, y6, y7⟩, ⟨c1, c2, c3, c4, c5, ⟨rfl, by omega⟩, c7, ⟨rfl, by omega⟩, c9⟩, d1, d2, d3, d4, hfl, d6⟩
          · show upd (σ 73) x d = upd (σ 39) x d
            rw [y1]
          · show upd (σ 74) x lb = upd (σ 40) x lb
            rw [y2]
          · show upd (σ 75) x gp = upd (σ 41) x gp
            rw [y3]
        refine P2_of (r := nI (x + 1)) (σ1 := up (up (up (cw σ x (nI p) lb gp fl) 4 1 0) 39 x d) 4 7 (nI (x + 1))) (σ2 := up (up (up (mw (up (up (up (cw σ x (nI p) lb gp fl) 4 1 0) 39 x d) 4 7 (nI (x + 1))) x (nI p) lb gp fl) 12 9 0) 73 x d) 12 5 (nI (x + 1))) ?_ ?_ (wf_inv W h8 h10)
        · unfold sp_28 sp_29
          simp only [e1_d, bn_rt, if_bI hd, if_pos h1, e30 H.x1 hx, kC, eq_false n10, if_false, c47, mb_t v6, hcl, nI_1, if_neg (show ¬ (0 : Int32) ≤ -1 by decide)]
          rfl
        · have hM : MB (σ 38) b x (up (up (up (cw σ x (nI p) lb gp fl) 4 1 0) 39 x d) 4 7 (nI (x + 1))) := ⟨H.mtb, H.mx, H.a78⟩
          have k6 := kM (up (up (up (cw σ x (nI p) lb gp fl) 4 1 0) 39 x d) 4 7 (nI (x + 1))) hM H.a76
          have k7 : up (up (up (cw σ x (nI p) lb gp fl) 4 1 0) 39 x d) 4 7 (nI (x + 1)) 12 5 = nI x := H.mx
          have k8 : mw (up (up (up (cw σ x (nI p) lb gp fl) 4 1 0) 39 x d) 4 7 (nI (x + 1))) x (nI p) lb gp fl 12 5 = nI x := H.mx
          show sp_143 d (up (up (up (cw σ x (nI p) lb gp fl) 4 1 0) 39 x d) 4 7 (nI (x + 1))) = _
          unfold sp_143
          simp only [e124, bn_rt, if_bI hd, k7, if_neg hne, k6, eq_false n10, if_false, k8, mb_t v7, hcl, nI_1]
    · have h1 : ¬ σ 4 7 < 6 := by rw [H.x1]; exact fun z => hx ((nI_ltI (by omega) (show 6 < 2 ^ 31 by omega)).mp z)
      have e6 : fT 4 σ 12 5 = 6 := by
        show σ 12 5 = nI 6
        rw [H.mx, nI_eq (by omega) (by omega)]
        omega
      refine p2_b4 hI ?_ ?_
      · unfold sp_28
        simp only [e1_d, bn_rt, if_bI hd, if_neg h1, e2_4]
      · show sp_143 d (fT 4 σ) = _
        unfold sp_143
        simp only [e124, bn_rt, if_bI hd, if_pos e6, e125_4]
  · refine p2_b1 hI ?_ ?_
    · unfold sp_28
      simp only [e1_d, bn_rt, bI_i0, if_neg hd, e2_1]
    · show sp_143 d (fT 1 σ) = _
      unfold sp_143
      simp only [e124, bn_rt, bI_i0, if_neg hd, e125_1]
