/-! reading a text: faults, rows -/
theorem dig7 (z : Int32) : (dig z 55 → ∃ k, k < 8 ∧ z = nI (48 + k) ∧ z - 48 = nI k) ∧ (¬ dig z 55 → ¬ rg (z - 48) 8) := by
  constructor
  · rintro ⟨h1, h2⟩
    have z1 := Int32.le_iff_toInt_le.mp (Int32.not_lt.mp h1)
    have z2 := Int32.le_iff_toInt_le.mp (Int32.not_lt.mp h2)
    have a1 : (48 : Int32).toInt = 48 := rfl
    have a2 : (55 : Int32).toInt = 55 := rfl
    obtain ⟨j, hj, e⟩ := rg_of (x := z) (n := 56) ⟨by omega, by omega⟩ (by omega)
    rw [e, nI_toInt (by omega)] at z1
    refine ⟨j - 48, by omega, by rw [e]; congr 1; omega, ?_⟩
    rw [e, show (48 : Int32) = nI 48 from rfl, pk_sub (by omega)]
  · intro h hr
    apply h
    obtain ⟨j, hj, e⟩ := rg_of hr (by omega)
    have ez : z = nI (j + 48) := by
      have : z = (z - 48) + 48 := (Int32.sub_add_cancel z 48).symm
      rw [this, e, show (48 : Int32) = nI 48 from rfl, nI_add]
    rw [ez]
    constructor
    · show ¬ nI (j + 48) < nI 48
      exact nI_nlt (by omega) (by omega)
    · show ¬ nI 55 < nI (j + 48)
      exact nI_nlt (by omega) (by omega)
theorem e123_7 (x : Int32) (σ : St) : sp_123 x 0 7 σ = rt (bI (rg x 8)) σ := e123 x (n := 7) (by omega) σ
def kof (z : Int32) : Int32 := if z = 99 then 1 else if z = 114 then 3 else if z = 116 then 2 else if z = 118 then 0 else -1
theorem e36 (z : Int32) (σ : St) : sp_36 z σ = rt (kof z) σ := by
  unfold sp_36 kof
  simp only [rt_ite]
theorem kof_cs (z : Int32) : kof z = -1 ∨ ∃ k, k < 4 ∧ kof z = nI k := by
  unfold kof
  split
  · exact Or.inr ⟨1, by omega, rfl⟩
  · split
    · exact Or.inr ⟨3, by omega, rfl⟩
    · split
      · exact Or.inr ⟨2, by omega, rfl⟩
      · split
        · exact Or.inr ⟨0, by omega, rfl⟩
        · exact Or.inl rfl
/-- the fails of a row -/
def flS (x : Nat) (F top : Int32) (k : Nat) (h : Nat → Int32) : Nat → Int32 := if und (nI k) top then upd h (x * 4 + k) (h (x * 4 + k) ||| F) else h
def flF (x : Nat) (F top : Int32) (fl : Nat → Int32) : Nat → Int32 := fol (flS x F top) 0 4 fl
theorem flF_rg {x : Nat} {F top : Int32} {fl : Nat → Int32} (hF : rg F 256) (h : ∀ i, rg (fl i) 256) : ∀ i, rg (flF x F top fl i) 256 := by
  unfold flF
  refine fol_inv (P := fun h => ∀ i, rg (h i) 256) 4 0 fl h ?_
  intro k a _ _ ha i
  unfold flS
  split
  · unfold upd
    split
    · exact or_rg (ha _) hF
    · exact ha i
  · exact ha i
theorem sh_rg {k : Nat} (hk : k < 8) : rg ((1 : Int32) <<< (nI k &&& 31)) 256 := co_dec (N := 8) (P := fun k => rg ((1 : Int32) <<< (nI k &&& 31)) 256) (by decide +kernel) hk
section
variable {tp : Nat → Int32} {b x : Nat} {lb gp : Int32} {fl : Nat → Int32}
theorem e34l {σ : St} (h : CB tp b x σ) (hx : x < 6) {p : Nat} (F top : Int32) : lp_34_69 FU F top 0 (cw σ x (nI p) lb gp fl) = rt 1 (cw σ x (nI p) lb gp (flF x F top fl)) := by
  refine cloop (fun f k a => lp_34_69 f F top (nI k) (cw σ x (nI p) lb gp a)) (flS x F top) (fun a => rt 1 (cw σ x (nI p) lb gp a)) 4 ?_ ?_ 4 0 FU fl (by omega) (FU_big (by omega))
  · intro f a
    show lp_34_69 (f + 1) F top (nI 4) (cw σ x (nI p) lb gp a) = _
    rw [lp_34_69, if_pos (show (4 : Int32) ≤ nI 4 by decide), mb_t b11]
  · intro f k a hk
    show lp_34_69 (f + 1) F top (nI k) (cw σ x (nI p) lb gp a) = lp_34_69 f F top (nI (k + 1)) (cw σ x (nI p) lb gp (flS x F top k a))
    have e42 : cw σ x (nI p) lb gp a 42 = a := rfl
    have eix : nI x * 4 + nI k = nI (x * 4 + k) := by rw [show (4 : Int32) = nI 4 from rfl, pk_mul, nI_add]
    have hv := vp_in_nI (show x * 4 + k < 24 by omega) (show 24 < 2 ^ 31 by omega)
    rw [lp_34_69, if_neg (show ¬ (4 : Int32) ≤ nI k from nI_ge (b := 4) hk (show 4 < 2 ^ 31 by decide)), e5, bn_rt, bI_i0, cw47 h, eix, mb_t hv, mb_t hv, nI_cl (by omega), e42, cw_fl, nI_1]
    unfold flS
    by_cases z : und (nI k) top
    · rw [if_pos z, if_pos z]
    · rw [if_neg z, if_neg z]
theorem e146l {ρ : St} (hx : x < 6) {p : Nat} (K top : Int32) : lp_146_124 FU (nI x) K top 0 (mw ρ x (nI p) lb gp fl) = rt 1 (mw ρ x (nI p) lb gp (flF x ((1 : Int32) <<< (K &&& 31)) top fl)) := by
  refine cloop (fun f k a => lp_146_124 f (nI x) K top (nI k) (mw ρ x (nI p) lb gp a)) (flS x ((1 : Int32) <<< (K &&& 31)) top) (fun a => rt 1 (mw ρ x (nI p) lb gp a)) 4 ?_ ?_ 4 0 FU fl (by omega) (FU_big (by omega))
  · intro f a
    show lp_146_124 (f + 1) (nI x) K top (nI 4) (mw ρ x (nI p) lb gp a) = _
    rw [lp_146_124, if_pos (show (4 : Int32) ≤ nI 4 by decide), mb_t b11]
  · intro f k a hk
    show lp_146_124 (f + 1) (nI x) K top (nI k) (mw ρ x (nI p) lb gp a) = lp_146_124 f (nI x) K top (nI (k + 1)) (mw ρ x (nI p) lb gp (flS x ((1 : Int32) <<< (K &&& 31)) top k a))
    have e76 : mw ρ x (nI p) lb gp a 76 = a := rfl
    have eix : (4 : Int32) * nI x + nI k = nI (x * 4 + k) := by rw [show (4 : Int32) = nI 4 from rfl, pk_mul, nI_add, Nat.mul_comm]
    have hv := vp_in_nI (show x * 4 + k < 28 by omega) (show 28 < 2 ^ 31 by omega)
    rw [lp_146_124, if_neg (show ¬ (4 : Int32) ≤ nI k from nI_ge (b := 4) hk (show 4 < 2 ^ 31 by decide)), eix, mb_t hv, e128, bn_rt, bI_i0, mb_t hv, mb_t hv, nI_cl (by omega), e76, mw_fl, mw_fl, nI_1, Int32.or_zero, upd_same rfl]
    unfold flS
    by_cases z : und (nI k) top
    · rw [if_pos z, if_pos z]
    · rw [if_neg z, if_neg z]
theorem e_fault (hb : b ≤ 60) (hx : x < 6) {p : Nat} (hp : p < 2 ^ 28) : ∃ r p' fl', (r = 0 ∨ r = 1) ∧ p ≤ p' ∧ p' ≤ p + 3 ∧ ((∀ i, rg (fl i) 256) → ∀ i, rg (fl' i) 256) ∧ (∀ σ, CB tp b x σ → sp_34 (cw σ x (nI p) lb gp fl) = rt r (cw σ x (nI p') lb gp fl')) ∧ (∀ ρ, MB tp b x ρ → sp_146 (nI x) (mw ρ x (nI p) lb gp fl) = rt r (mw ρ x (nI p') lb gp fl')) := by
  by_cases z : dig (nx tp b p) 55
  · obtain ⟨k, hk, e1', e2'⟩ := (dig7 _).1 z
    have hr : rg (nI k) 8 := rg_nI hk (by omega)
    have m84 : ∀ ρ, MB tp b x ρ → sp_146 (nI x) (mw ρ x (nI p) lb gp fl) = lp_146_84 (nI x) (nI k) (kof (nx tp b (p + 1))) (mw ρ x (nI (p + 1)) lb gp fl) := by
      intro ρ h
      unfold sp_146 kof
      simp only [m145 h hb (show p < 2 ^ 30 by omega), bn_rt, e123_7, if_bI hr, mw_n, m145 h hb (show p + 1 < 2 ^ 30 by omega), e2']
      by_cases y1 : nx tp b (p + 1) = 118
      · simp only [y1, if_true, eq_false (show ¬ (118 : Int32) = 99 by decide), eq_false (show ¬ (118 : Int32) = 114 by decide), eq_false (show ¬ (118 : Int32) = 116 by decide), if_false]
      · by_cases y2 : nx tp b (p + 1) = 99
        · simp only [if_neg y1, if_pos y2]
        · by_cases y3 : nx tp b (p + 1) = 116
          · simp only [y3, if_true, eq_false (show ¬ (116 : Int32) = 118 by decide), eq_false (show ¬ (116 : Int32) = 99 by decide), eq_false (show ¬ (116 : Int32) = 114 by decide), if_false]
          · by_cases y4 : nx tp b (p + 1) = 114
            · simp only [if_neg y1, if_neg y2, if_neg y3, if_pos y4]
            · simp only [if_neg y1, if_neg y2, if_neg y3, if_neg y4]
    rcases kof_cs (nx tp b (p + 1)) with y | ⟨q, hq, y⟩
    · refine ⟨0, p + 1, fl, Or.inl rfl, by omega, by omega, fun h => h, ?_, ?_⟩
      · intro σ h
        unfold sp_34
        simp only [c33 h hb (show p < 2 ^ 30 by omega), bn_rt, e35, if_bI z, cw_n 0, c33 h hb (show p + 1 < 2 ^ 30 by omega), e36, y, if_neg (show ¬ (0 : Int32) ≤ -1 by decide), mb_T, true_or]
      · intro ρ h
        rw [m84 ρ h, y]
        unfold lp_146_84
        rw [if_neg (show ¬ (0 : Int32) ≤ -1 by decide), mb_t b00]
    · have hq0 : (0 : Int32) ≤ nI q := nI_pos' (by omega)
      by_cases u : nx tp b (p + 2) = 59
      · refine ⟨1, p + 3, flF x ((1 : Int32) <<< (nI k &&& 31)) (nI q) fl, Or.inr rfl, by omega, by omega, flF_rg (sh_rg hk), ?_, ?_⟩
        · intro σ h
          unfold sp_34
          simp only [c33 h hb (show p < 2 ^ 30 by omega), bn_rt, e35, if_bI z, cw_n 0, c33 h hb (show p + 1 < 2 ^ 30 by omega), e36, y, if_pos hq0, c37 h hb (show p + 1 + 1 < 2 ^ 30 by omega)]
          rw [if_pos (show nx tp b (p + 1 + 1) = 59 from u), bn_rt, if_neg n10, e2', e34l h hx]
        · intro ρ h
          rw [m84 ρ h, y]
          unfold lp_146_84
          simp only [if_pos hq0, mw_n, m145 h hb (show p + 1 + 1 < 2 ^ 30 by omega), bn_rt]
          rw [if_pos (show nx tp b (p + 1 + 1) = 59 from u), e146l hx]
      · refine ⟨0, p + 2, fl, Or.inl rfl, by omega, by omega, fun h => h, ?_, ?_⟩
        · intro σ h
          unfold sp_34
          simp only [c33 h hb (show p < 2 ^ 30 by omega), bn_rt, e35, if_bI z, cw_n 0, c33 h hb (show p + 1 < 2 ^ 30 by omega), e36, y, if_pos hq0, c37 h hb (show p + 1 + 1 < 2 ^ 30 by omega)]
          rw [if_neg (show ¬ nx tp b (p + 1 + 1) = 59 from u), bn_rt, if_pos rfl, mb_t (Or.inl trivial)]
        · intro ρ h
          rw [m84 ρ h, y]
          unfold lp_146_84
          simp only [if_pos hq0, mw_n, m145 h hb (show p + 1 + 1 < 2 ^ 30 by omega), bn_rt]
          rw [if_neg (show ¬ nx tp b (p + 1 + 1) = 59 from u), mb_t (Or.inl trivial)]
  · refine ⟨0, p, fl, Or.inl rfl, by omega, by omega, fun h => h, ?_, ?_⟩
    · intro σ h
      unfold sp_34
      simp only [c33 h hb (show p < 2 ^ 30 by omega), bn_rt, e35, bI_i0, if_neg z, mb_T, true_or]
    · intro ρ h
      unfold sp_146
      simp only [m145 h hb (show p < 2 ^ 30 by omega), bn_rt, e123_7, bI_i0, if_neg ((dig7 _).2 z), mb_T, true_or]
/-- the model's row -/
def mrow (x : Nat) (ko : Int32 → Int32 → St → MR) (σ : St) : MR := bn (sp_145 σ) (fun r8 σ8 => if r8 = 98 then lp_144_85 ko (nI x) r8 σ8 else if r8 = 100 then lp_144_85 ko (nI x) r8 σ8 else if r8 = 102 then lp_144_85 ko (nI x) r8 σ8 else mb ((0 : Int32) = 0 ∨ (0 : Int32) = 1) (rt 0 σ8))
theorem e_row (hb : b ≤ 60) (hx : x < 6) {p : Nat} (hp : p < 2 ^ 20) : ∃ r p' lb' gp' fl', (r = 0 ∨ r = 1) ∧ p ≤ p' ∧ (r = 1 → p + 1 ≤ p') ∧ p' ≤ p + 5 ∧ ((∀ i, rg (fl i) 256) → ∀ i, rg (fl' i) 256) ∧ (∀ σ, CB tp b x σ → sp_32 (cw σ x (nI p) lb gp fl) = rt r (cw σ x (nI p') lb' gp' fl')) ∧ (∀ ρ, MB tp b x ρ → ∀ ko, mrow x ko (mw ρ x (nI p) lb gp fl) = if r = 0 then rt 0 (mw ρ x (nI p') lb' gp' fl') else ko (nI x) (nx tp b p) (mw ρ x (nI p') lb' gp' fl')) := by
  have n8 : ¬ (100 : Int32) = 98 := by decide
  have n2 : ¬ (102 : Int32) = 98 := by decide
  have n3 : ¬ (102 : Int32) = 100 := by decide
  have n4 : ¬ (98 : Int32) = 102 := by decide
  have n5 : ¬ (100 : Int32) = 102 := by decide
  have n6 : ¬ (98 : Int32) = 100 := by decide
  have h7 := vp_in_nI (show x < 7 by omega) (show 7 < 2 ^ 31 by omega)
  have h6 := vp_in_nI hx (show 6 < 2 ^ 31 by omega)
  have hcl : (nI x).toNatClampNeg = x := nI_cl (by omega)
  by_cases z2 : nx tp b p = 102
  · obtain ⟨r, p', fl', h1, h2, h3, h4, h5, h6'⟩ := e_fault (tp := tp) (lb := lb) (gp := gp) (fl := fl) hb hx (p := p + 1) (by omega)
    refine ⟨r, p', lb, gp, fl', h1, by omega, fun _ => by omega, by omega, h4, ?_, ?_⟩
    · intro σ h
      unfold sp_32 lp_32_25
      simp only [c33 h hb (show p < 2 ^ 30 by omega), bn_rt, z2, eq_false n2, eq_false n3, if_false, if_true, cw_n 0, h5 σ h]
      rw [mb_t h1]
    · intro ρ h ko
      unfold mrow lp_144_85
      simp only [m145 h hb (show p < 2 ^ 30 by omega), bn_rt, z2, eq_false n2, eq_false n3, if_false, if_true, mw_n, h6' ρ h, mb_T, true_or]
  · by_cases z8 : nx tp b p = 98
    · obtain ⟨r, p', h1, h2, h3, h4⟩ := e_num (tp := tp) (x := x) (lb := lb) (gp := gp) (fl := fl) hb (M := 3) (by omega) 3 0 (p + 1) 0 (by omega) (by omega)
      have k3 : ∀ σ, CB tp b x σ → sp_38 3 (cw σ x (nI (p + 1)) lb gp fl) = rt r (cw σ x (nI p') lb gp fl) := fun σ h => h3 σ h FU (FU_big (by omega))
      have k4 : ∀ ρ, MB tp b x ρ → sp_147 3 (mw ρ x (nI (p + 1)) lb gp fl) = rt r (mw ρ x (nI p') lb gp fl) := fun ρ h => h4 ρ h FU (FU_big (by omega))
      by_cases y : 0 ≤ r
      · refine ⟨1, p', r, gp, fl, Or.inr rfl, by omega, fun _ => by omega, by omega, fun h => h, ?_, ?_⟩
        · intro σ h
          unfold sp_32 lp_32_25 lp_32_62
          simp only [c33 h hb (show p < 2 ^ 30 by omega), bn_rt, z8, eq_false n4, if_false, if_true, cw_n 0, k3 σ h, if_pos y, cw47 h, mb_t h6, hcl, mb_T, or_true, cw_lb]
        · intro ρ h ko
          unfold mrow lp_144_85 lp_144_127 lp_144_155
          simp only [m145 h hb (show p < 2 ^ 30 by omega), bn_rt, z8, eq_false n4, eq_false n6, if_false, if_true, mw_n, k4 ρ h, if_pos y, mb_t h7, hcl, mw_lb, mw_gp, mw75, eq_false n10]
      · refine ⟨0, p', lb, gp, fl, Or.inl rfl, by omega, fun z => absurd z n01, by omega, fun h => h, ?_, ?_⟩
        · intro σ h
          unfold sp_32 lp_32_25 lp_32_62
          simp only [c33 h hb (show p < 2 ^ 30 by omega), bn_rt, z8, eq_false n4, if_false, if_true, cw_n 0, k3 σ h, if_neg y, mb_T, true_or]
        · intro ρ h ko
          unfold mrow lp_144_85 lp_144_127
          simp only [m145 h hb (show p < 2 ^ 30 by omega), bn_rt, z8, eq_false n4, if_false, if_true, mw_n, k4 ρ h, if_neg y, mb_T, true_or]
    · by_cases z0 : nx tp b p = 100
      · obtain ⟨r, p', h1, h2, h3, h4⟩ := e_num (tp := tp) (x := x) (lb := lb) (gp := gp) (fl := fl) hb (M := 2) (by omega) 2 0 (p + 1) 0 (by omega) (by omega)
        have k3 : ∀ σ, CB tp b x σ → sp_38 2 (cw σ x (nI (p + 1)) lb gp fl) = rt r (cw σ x (nI p') lb gp fl) := fun σ h => h3 σ h FU (FU_big (by omega))
        have k4 : ∀ ρ, MB tp b x ρ → sp_147 2 (mw ρ x (nI (p + 1)) lb gp fl) = rt r (mw ρ x (nI p') lb gp fl) := fun ρ h => h4 ρ h FU (FU_big (by omega))
        by_cases y : 0 ≤ r
        · refine ⟨1, p', lb, r, fl, Or.inr rfl, by omega, fun _ => by omega, by omega, fun h => h, ?_, ?_⟩
          · intro σ h
            unfold sp_32 lp_32_25 lp_32_62
            simp only [c33 h hb (show p < 2 ^ 30 by omega), bn_rt, z0, eq_false n8, eq_false n5, if_false, if_true, cw_n 0, k3 σ h, if_pos y, cw47 h, mb_t h6, hcl, mb_T, or_true, cw_gp]
          · intro ρ h ko
            unfold mrow lp_144_85 lp_144_127 lp_144_155
            simp only [m145 h hb (show p < 2 ^ 30 by omega), bn_rt, z0, eq_false n8, eq_false n5, if_false, if_true, mw_n, k4 ρ h, if_pos y, mb_t h7, hcl, mw_lb, mw_gp, mw74, eq_false n10]
        · refine ⟨0, p', lb, gp, fl, Or.inl rfl, by omega, fun z => absurd z n01, by omega, fun h => h, ?_, ?_⟩
          · intro σ h
            unfold sp_32 lp_32_25 lp_32_62
            simp only [c33 h hb (show p < 2 ^ 30 by omega), bn_rt, z0, eq_false n8, eq_false n5, if_false, if_true, cw_n 0, k3 σ h, if_neg y, mb_T, true_or]
          · intro ρ h ko
            unfold mrow lp_144_85 lp_144_127
            simp only [m145 h hb (show p < 2 ^ 30 by omega), bn_rt, z0, eq_false n8, eq_false n5, if_false, if_true, mw_n, k4 ρ h, if_neg y, mb_T, true_or]
      · refine ⟨0, p, lb, gp, fl, Or.inl rfl, by omega, fun z => absurd z n01, by omega, fun h => h, ?_, ?_⟩
        · intro σ h
          unfold sp_32
          simp only [c33 h hb (show p < 2 ^ 30 by omega), bn_rt, if_neg z2, if_neg z8, if_neg z0, mb_T, true_or]
        · intro ρ h ko
          unfold mrow
          simp only [m145 h hb (show p < 2 ^ 30 by omega), bn_rt, if_neg z2, if_neg z8, if_neg z0, mb_T, true_or, if_true]
end
