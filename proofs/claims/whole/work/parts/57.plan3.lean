/-! pairs: plan -/
theorem fr_fM {σ τ : St} (h : Fr σ τ) (k : Nat) : Fr (fM k σ) (fM k τ) := by
  intro d hd
  unfold fM up
  by_cases e : d = 80
  · subst e
    rw [if_pos rfl, if_pos rfl, h 80 rfl]
  · rw [if_neg e, if_neg e, h d hd]
/-- the cells of the plan as they were -/
def r49 (σ τ : St) : St := fun c => if c = 49 then σ 49 else τ c
theorem r49_fr {σ τ : St} (h : ∀ d, scr d = false → d ≠ 49 → τ d = σ d) : Fr σ (r49 σ τ) := by
  intro d hd
  unfold r49
  by_cases e : d = 49
  · rw [if_pos e, e]
  · rw [if_neg e]
    exact h d hd e
section
variable {σ : St} {v g t m n x s b w : Nat}
theorem Wf.fr9 (H : Wf σ v g t m n x s b w) {τ : St} (h : ∀ d, scr d = false → d ≠ 49 → τ d = σ d) (h0 : ∀ j, 64 * s ≤ j → τ 49 j = 0) : Wf τ v g t m n x s b w := by
  obtain ⟨a, b, c, d, e, d1, d2, d3, d4, d5, d6, d7, _, d9⟩ := H.fr (r49_fr h)
  exact ⟨a, b, c, d, e, d1, d2, d3, d4, d5, d6, d7, h0, d9⟩
theorem wo_r49 {σ τ : St} (h : ∀ d, scr d = false → d ≠ 49 → τ d = σ d) (m n x c : Nat) (q : Int32) : wo τ m n x c q = wo σ m n x c q := by
  have h1 : wo (r49 σ τ) m n x c q = wo τ m n x c q := rfl
  rw [← h1, wo_fr (r49_fr h)]
theorem Wf.rkb (H : Wf σ v g t m n x s b w) (a : Int32) : ∀ j, j ≤ n → ∃ d, d ≤ 1 + 8 * j ∧ fol (fun k c => if gr σ m k = a then c + bc (sg σ m n x k) else c) 0 j 1 = nI d
  | 0, _ => ⟨1, by omega, rfl⟩
  | j + 1, hj => by
    obtain ⟨d, hd, e⟩ := H.rkb a j (by omega)
    obtain ⟨p, hp, ep⟩ := rg_of (bc_rg (rg_le (sg_rg σ m n x j) (by omega : 32 ≤ 256))) (by omega)
    rw [fol_last, Nat.zero_add, e]
    show ∃ d', d' ≤ 1 + 8 * (j + 1) ∧ (if gr σ m j = a then nI d + bc (sg σ m n x j) else nI d) = nI d'
    rw [ep, nI_add]
    split
    · exact ⟨d + p, by omega, rfl⟩
    · exact ⟨d, by omega, rfl⟩
theorem Wf.wob (H : Wf σ v g t m n x s b w) {c : Nat} (hc : c < s) (a : Int32) : ∃ d, d ≤ 6000 ∧ wo σ m n x c a = nI d := by
  have hn := H.n2
  obtain ⟨d, hd, e⟩ := H.rkb a n (Nat.le_refl n)
  obtain ⟨p, hp, ep⟩ := rg_of (bc_rg (and_rg (H.ds c hc) (se σ m n a ^^^ (-1)))) (by omega)
  have e' : rk σ m n x a = nI d := e
  unfold wo
  rw [e', ep, pk_mul]
  refine ⟨d * p, ?_, rfl⟩
  have : d * p ≤ 641 * 8 := Nat.mul_le_mul (by omega) (by omega)
  omega
/-- worths of the model -/
theorem Wf.e186w (H : Wf σ v g t m n x s b w) : ∃ τ, sp_186 σ = lp_186_51 FU 0 τ ∧ Ex1 83 σ τ ∧ ∀ c q, c < s → q < g → τ 83 (c * 6 + q) = wo σ m n x c (nI q) := by
  have hs := H.s2
  have hg := H.g2
  unfold sp_186
  have hlp := iloop (fun f i ρ => lp_186_2 f (nI i) ρ) (fun j ρ => Ex1 83 σ ρ ∧ ∀ c q, c < j → q < g → ρ 83 (c * 6 + q) = wo σ m n x c (nI q)) s ?_ s 0 FU σ (by omega) (FU_big (by omega)) ⟨fun _ _ => rfl, fun c q hc => absurd hc (by omega)⟩
  · obtain ⟨k, ρ, ⟨r1, r2⟩, e⟩ := hlp
    refine ⟨ρ, ?_, r1, r2⟩
    have e : lp_186_2 FU (nI 0) σ = lp_186_2 (k + 1) (nI s) ρ := e
    show lp_186_2 FU (nI 0) σ = _
    rw [e, lp_186_2, (H.fr (r1.fr rfl)).ms, if_pos (nI_le (Nat.le_refl s) (by omega))]
  · intro f j ρ hj ⟨r1, r2⟩
    have hin := iloop (fun f' i ρ' => lp_186_12 (fun v1 σ => lp_186_2 f v1 σ) f' (nI j) (nI i) ρ') (fun i ρ' => Ex1 83 σ ρ' ∧ (∀ c q, c < j → q < g → ρ' 83 (c * 6 + q) = wo σ m n x c (nI q)) ∧ ∀ q, q < i → ρ' 83 (j * 6 + q) = wo σ m n x j (nI q)) g ?_ g 0 FU ρ (by omega) (FU_big (by omega)) ⟨r1, r2, fun q hq => absurd hq (by omega)⟩
    · obtain ⟨k, ρ', ⟨p1, p2, p3⟩, e⟩ := hin
      refine ⟨ρ', ⟨p1, ?_⟩, ?_⟩
      · intro c q hc hq
        by_cases z : c = j
        · rw [z]
          exact p3 q hq
        · exact p2 c q (by omega) hq
      · have e : lp_186_12 (fun v1 σ => lp_186_2 f v1 σ) FU (nI j) 0 ρ = lp_186_12 (fun v1 σ => lp_186_2 f v1 σ) (k + 1) (nI j) (nI g) ρ' := e
        show lp_186_2 (f + 1) (nI j) ρ = lp_186_2 f (nI (j + 1)) ρ'
        rw [lp_186_2, (H.fr (r1.fr rfl)).ms, if_neg (nI_ge hj (by omega)), e, lp_186_12, (H.fr (p1.fr rfl)).mg, if_pos (nI_le (Nat.le_refl g) (by omega)), nI_1]
    · intro f' i ρ' hi ⟨p1, p2, p3⟩
      have Hρ := H.fr (p1.fr rfl)
      refine ⟨up ρ' 83 (j * 6 + i) (wo σ m n x j (nI i)), ⟨p1.up _ _, ?_, ?_⟩, ?_⟩
      · intro c q hc hq
        show upd (ρ' 83) (j * 6 + i) _ (c * 6 + q) = _
        rw [pk_un (by omega)]
        exact p2 c q hc hq
      · intro q hq
        show upd (ρ' 83) (j * 6 + i) _ (j * 6 + q) = _
        by_cases z : q = i
        · rw [z, pk_us]
        · rw [pk_un (by omega)]
          exact p3 q (by omega)
      · show lp_186_12 _ (f' + 1) (nI j) (nI i) ρ' = lp_186_12 _ f' (nI j) (nI (i + 1)) _
        rw [lp_186_12, Hρ.mg, if_neg (nI_ge hi (by omega)), Hρ.e184 hj, bn_rt, mx6, mb_t (vp_in_nI (show j * 6 + i < 36 by omega) (by omega)), nI_cl (by omega), nI_1, wo_fr (p1.fr rfl)]
theorem Wf.e186 (H : Wf σ v g t m n x s b w) : ∃ τ, sp_186 σ = rt (DP (fun c q => wo σ m n x c (nI q)) g s s 0) τ ∧ Fr σ τ ∧ ∀ c, c < s → τ 84 c = lg (fun c q => wo σ m n x c (nI q)) g s c (tk (fun c q => wo σ m n x c (nI q)) g s c) := by
  have hs := H.s2
  have hg := H.g2
  obtain ⟨τ1, e1', h1, h2⟩ := H.e186w
  have H1 := H.fr (h1.fr rfl)
  have hz := iloop (fun f i ρ => lp_186_51 f (nI i) ρ) (fun j ρ => Ex1 82 τ1 ρ ∧ ∀ T, T < j → ρ 82 (s * 64 + T) = 0) 64 ?_ 64 0 FU τ1 (by omega) (FU_big (by omega)) ⟨fun _ _ => rfl, fun T hT => absurd hT (by omega)⟩
  · obtain ⟨k, τ2, ⟨h3, h4⟩, e2'⟩ := hz
    have e2' : lp_186_51 FU 0 τ1 = lp_186_51 (k + 1) (nI 64) τ2 := e2'
    have hP : PlM (fun c q => wo σ m n x c (nI q)) g s s τ2 := by
      refine ⟨⟨?_, ?_⟩, ?_, ?_⟩
      · rw [h3 12 (by omega)]
        exact H1.mg
      · rw [h3 12 (by omega)]
        exact H1.ms
      · rw [h3 83 (by omega)]
        exact h2
      · intro k T hk hks hT
        rw [show k = s by omega, h4 T hT, show s - s = 0 by omega]
        rfl
    obtain ⟨τ3, e3', h5, h6⟩ := e186c hg hs (fun c q hc hq => H.wob hc (nI q)) s FU τ2 (Nat.le_refl s) (FU_big (by omega)) hP
    obtain ⟨τ4, e4', h7, h8⟩ := e186p hg hs h5
    refine ⟨τ4, ?_, ?_, h8⟩
    · rw [e1', e2', lp_186_51, if_pos (show (64 : Int32) ≤ nI 64 by decide), hP.1.2, e3', e4']
    · exact ((h1.fr rfl).tr (h3.fr rfl)).tr ((h6.fr rfl).tr (h7.fr rfl))
  · intro f j ρ hj ⟨h3, h4⟩
    have e12 : ρ 12 6 = nI s := by
      rw [h3 12 (by omega)]
      exact H1.ms
    refine ⟨up ρ 82 (s * 64 + j) 0, ⟨h3.up _ _, ?_⟩, ?_⟩
    · intro T hT
      show upd (ρ 82) (s * 64 + j) 0 (s * 64 + T) = 0
      by_cases z : T = j
      · rw [z, pk_us]
      · rw [pk_un (by omega)]
        exact h4 T (by omega)
    · show lp_186_51 (f + 1) (nI j) ρ = lp_186_51 f (nI (j + 1)) _
      rw [lp_186_51, if_neg (show ¬ (64 : Int32) ≤ nI j from nI_ge (b := 64) hj (show 64 < 2 ^ 31 by decide)), e12, mx64, mb_t (vp_in_nI (show s * 64 + j < 448 by omega) (by omega)), nI_cl (by omega), nI_1]
/-- the class's plan -/
theorem Wf.e102 (H : Wf σ v g t m n x s b w) : ∃ τ τ', sp_101 σ = rt 0 τ ∧ sp_102 τ = rt 0 τ' ∧ PlC (fun c q => wo σ m n x c (nI q)) g s 0 τ' ∧ ∀ d, scr d = false → d ≠ 49 → τ' d = σ d := by
  have hs := H.s2
  have hg := H.g2
  obtain ⟨τ, e, h1, h2⟩ := H.e101
  have H1 := H.fr (h1.fr rfl rfl)
  have e49 : τ 49 = σ 49 := h1 49 (by omega) (by omega)
  have hP : PlC (fun c q => wo σ m n x c (nI q)) g s s τ := by
    refine ⟨⟨H1.g1, H1.s1⟩, h2, ?_, ?_⟩
    · intro k T hk hks hT
      rw [show k = s by omega, e49, H.dp _ (by omega), show s - s = 0 by omega]
      rfl
    · intro q hq
      rw [e49]
      exact H.dp q hq
  obtain ⟨τ', e', h3, h4⟩ := e102o hg hs s FU τ (Nat.le_refl s) (FU_big (by omega)) hP
  refine ⟨τ, τ', e, ?_, h3, ?_⟩
  · unfold sp_102
    rw [H1.s1]
    exact e'
  · intro d hd h49
    rw [h4 d h49, h1.fr (c1 := 11) (c2 := 48) rfl rfl d hd]
end
theorem pr_26 : Pr_26 Inv := by
  intro c σ hI
  obtain ⟨v, g, t, m, n, x, s, b, w, H⟩ := inv_wf hI
  have H1 := H.ft 1
  have hs := H.s2
  have hg := H.g2
  have hS : (nI s - 1).toInt = (s : Int) - 1 := pk_sub_toInt (a := s) (b := 1) (by omega) (by omega)
  have hS1 : fT 1 σ 12 6 = nI s := H.ms
  by_cases h1 : c < -1
  · refine p2_b1 hI ?_ ?_
    · unfold sp_100
      simp only [if_pos h1, e2_1, bn_rt]
    · show sp_185 c (fT 1 σ) = _
      unfold sp_185
      simp only [e123_lo h1, bn_rt, if_true, e125_1]
  · by_cases h2 : c < nI s
    · have h3 : ¬ nI s - 1 < c := by
        intro z
        have z := Int32.lt_iff_toInt_lt.mp z
        have h2 := (nI_lt' (by omega)).mp h2
        omega
      have h2' : c < σ 9 3 := by rw [H.s1]; exact h2
      obtain ⟨τ, τ', e1', e2', hP, hF⟩ := H.e102
      have H2 := H.fr9 hF hP.2.2.2
      have hWW : (fun c q => wo τ' m n x c (nI q)) = fun c q => wo σ m n x c (nI q) := by
        funext c q
        exact wo_r49 hF m n x c (nI q)
      have hI2 : Inv τ' := by
        refine wf_inv H2 ?_ ?_
        · rw [hF 80 rfl (by omega), hF 14 rfl (by omega)]
          exact inv_8 hI
        · rw [hF 12 rfl (by omega), hF 0 rfl (by omega)]
          exact inv_10 hI
      by_cases h0 : c < 0
      · have hc : c = -1 := by
          apply Int32.toInt_inj.mp
          have z1 := Int32.le_iff_toInt_le.mp (Int32.not_lt.mp h1)
          have z2 := xlt0.mp h0
          have : (-1 : Int32).toInt = -1 := rfl
          omega
        obtain ⟨τ3, e3', f3, _⟩ := H2.e186
        rw [hWW] at e3'
        refine P2_of (r := DP (fun c q => wo σ m n x c (nI q)) g s s 0) (σ1 := τ') (σ2 := τ3) ?_ ?_ (inv_fr hI2 f3)
        · unfold sp_100 sp_107
          have h00 : τ' 49 (0 : Int32).toNatClampNeg = DP (fun c q => wo σ m n x c (nI q)) g s s 0 := hP.2.2.1 0 0 (by omega) (by omega) (by omega)
          simp only [if_neg h1, if_pos h2', e1', bn_rt, e2', if_pos hc, mb_t (show vp_in (0 : Int32) 448 from vp_in_nI (n := 0) (N := 448) (by omega) (by omega)), h00]
        · show sp_185 c τ' = _
          unfold sp_185
          simp only [H2.ms, e123_in h1 h3, bn_rt, eq_false n10, if_false, e3', if_neg (show ¬ (0 : Int32) ≤ c by rw [hc]; decide)]
      · have hr : rg c s := ⟨Int.not_lt.mp (fun z => h0 (xlt0.mpr z)), (nI_lt' (by omega)).mp h2⟩
        obtain ⟨q, hq, rfl⟩ := rg_of hr (by omega)
        have hne : ¬ nI q = -1 := by
          intro z
          exact h0 (by rw [z]; decide)
        have h00 : (0 : Int32) ≤ nI q := nI_pos' (by omega)
        have hv6 := vp_in_nI (show q < 6 by omega) (show 6 < 2 ^ 31 by omega)
        have hcl : (nI q).toNatClampNeg = q := nI_cl (by omega)
        by_cases hL : 0 ≤ lg (fun c q => wo σ m n x c (nI q)) g s q (tk (fun c q => wo σ m n x c (nI q)) g s q)
        · obtain ⟨τ3, e3', f3, h84⟩ := H2.e186
          rw [hWW] at e3' h84
          refine P2_of (r := lg (fun c q => wo σ m n x c (nI q)) g s q (tk (fun c q => wo σ m n x c (nI q)) g s q)) (σ1 := τ') (σ2 := τ3) ?_ ?_ (inv_fr hI2 f3)
          · unfold sp_100
            simp only [if_neg h1, if_pos h2', e1', bn_rt, e2', if_neg hne, e108 hg hs hq hP, if_pos hL]
          · show sp_185 (nI q) τ' = _
            unfold sp_185
            simp only [H2.ms, e123_in h1 h3, bn_rt, eq_false n10, if_false, e3', if_pos h00, mb_t hv6, hcl, h84 q hq, if_pos hL]
        · have H3 := H2.ft 2
          obtain ⟨τ3, e3', f3, h84⟩ := H3.e186
          have hW3 : (fun c q => wo (fT 2 τ') m n x c (nI q)) = fun c q => wo σ m n x c (nI q) := hWW
          rw [hW3] at e3' h84
          refine P2_of (r := -1000002) (σ1 := fT 2 τ') (σ2 := fM 2 τ3) ?_ ?_ (inv_fr (inv_find hI2 2) (fr_fM f3 2))
          · unfold sp_100
            simp only [if_neg h1, if_pos h2', e1', bn_rt, e2', if_neg hne, e108 hg hs hq hP, if_neg hL, e2_2]
          · show sp_185 (nI q) (fT 2 τ') = _
            unfold sp_185
            simp only [H3.ms, e123_in h1 h3, bn_rt, eq_false n10, if_false, e3', if_pos h00, mb_t hv6, hcl, h84 q hq, if_neg hL, e125_2]
    · have h3 : nI s - 1 < c := by
        rw [Int32.lt_iff_toInt_lt, hS]
        have := Int.not_lt.mp (fun z => h2 ((nI_lt' (by omega)).mpr z))
        omega
      refine p2_b1 hI ?_ ?_
      · unfold sp_100
        simp only [if_neg h1, H.s1, if_neg h2, e2_1, bn_rt]
      · show sp_185 c (fT 1 σ) = _
        unfold sp_185
        simp only [hS1, e123_hi h3, bn_rt, if_true, e125_1]
