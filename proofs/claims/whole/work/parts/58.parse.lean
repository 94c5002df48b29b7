/-! reading a text: class and model step by step -/
theorem nI_or (i j : Nat) : nI i ||| nI j = nI (i ||| j) := Int32.toBitVec_inj.1 (by
  rw [Int32.toBitVec_or]
  exact (BitVec.ofNat_or).symm)
theorem or_rg {a b : Int32} (ha : rg a 256) (hb : rg b 256) : rg (a ||| b) 256 := by
  obtain ⟨i, hi, rfl⟩ := rg_of ha (by omega)
  obtain ⟨j, hj, rfl⟩ := rg_of hb (by omega)
  rw [nI_or]
  exact rg_nI (Nat.or_lt_two_pow (n := 8) hi hj) (by omega)
/-- the byte at a place -/
def nx (tp : Nat → Int32) (b p : Nat) : Int32 := if b ≤ p then -1 else tp p
/-- the class's cells while it reads -/
def cw (σ : St) (x : Nat) (pl lb gp : Int32) (fl : Nat → Int32) : St := fun c => if c = 4 then upd (σ 4) 2 pl else if c = 40 then upd (σ 40) x lb else if c = 41 then upd (σ 41) x gp else if c = 42 then fl else σ c
def mw (σ : St) (x : Nat) (pl lb gp : Int32) (fl : Nat → Int32) : St := fun c => if c = 12 then upd (σ 12) 45 pl else if c = 74 then upd (σ 74) x lb else if c = 75 then upd (σ 75) x gp else if c = 76 then fl else σ c
def CB (tp : Nat → Int32) (b x : Nat) (σ : St) : Prop := σ 4 1 = nI b ∧ σ 4 7 = nI x ∧ σ 38 = tp
def MB (tp : Nat → Int32) (b x : Nat) (σ : St) : Prop := σ 12 9 = nI b ∧ σ 12 5 = nI x ∧ σ 78 = tp
theorem upd_upd (f : Nat → Int32) (i : Nat) (a b : Int32) : upd (upd f i a) i b = upd f i b := by
  funext k
  unfold upd
  split <;> rfl
theorem cw_p (σ : St) (x : Nat) (pl lb gp : Int32) (fl : Nat → Int32) (q : Int32) : up (cw σ x pl lb gp fl) 4 2 q = cw σ x q lb gp fl := by
  funext c
  unfold up
  by_cases h : c = 4
  · rw [if_pos h, h]
    exact upd_upd (σ 4) 2 pl q
  · rw [if_neg h]
    unfold cw
    rw [if_neg h, if_neg h]
theorem cw_lb (σ : St) (x : Nat) (pl lb gp : Int32) (fl : Nat → Int32) (q : Int32) : up (cw σ x pl lb gp fl) 40 x q = cw σ x pl q gp fl := by
  funext c
  unfold up
  by_cases h : c = 40
  · rw [if_pos h, h]
    exact upd_upd (σ 40) x lb q
  · rw [if_neg h]
    unfold cw
    rw [if_neg h, if_neg h]
theorem cw_gp (σ : St) (x : Nat) (pl lb gp : Int32) (fl : Nat → Int32) (q : Int32) : up (cw σ x pl lb gp fl) 41 x q = cw σ x pl lb q fl := by
  funext c
  unfold up
  by_cases h : c = 41
  · rw [if_pos h, h]
    exact upd_upd (σ 41) x gp q
  · rw [if_neg h]
    unfold cw
    rw [if_neg h, if_neg h]
theorem cw_fl (σ : St) (x : Nat) (pl lb gp : Int32) (fl : Nat → Int32) (i : Nat) (q : Int32) : up (cw σ x pl lb gp fl) 42 i q = cw σ x pl lb gp (upd fl i q) := by
  funext c
  unfold up
  by_cases h : c = 42
  · rw [if_pos h, h]
    rfl
  · rw [if_neg h]
    unfold cw
    rw [if_neg h, if_neg h]
theorem mw_p (σ : St) (x : Nat) (pl lb gp : Int32) (fl : Nat → Int32) (q : Int32) : up (mw σ x pl lb gp fl) 12 45 q = mw σ x q lb gp fl := by
  funext c
  unfold up
  by_cases h : c = 12
  · rw [if_pos h, h]
    exact upd_upd (σ 12) 45 pl q
  · rw [if_neg h]
    unfold mw
    rw [if_neg h, if_neg h]
theorem mw_lb (σ : St) (x : Nat) (pl lb gp : Int32) (fl : Nat → Int32) (q : Int32) : up (mw σ x pl lb gp fl) 74 x q = mw σ x pl q gp fl := by
  funext c
  unfold up
  by_cases h : c = 74
  · rw [if_pos h, h]
    exact upd_upd (σ 74) x lb q
  · rw [if_neg h]
    unfold mw
    rw [if_neg h, if_neg h]
theorem mw_gp (σ : St) (x : Nat) (pl lb gp : Int32) (fl : Nat → Int32) (q : Int32) : up (mw σ x pl lb gp fl) 75 x q = mw σ x pl lb q fl := by
  funext c
  unfold up
  by_cases h : c = 75
  · rw [if_pos h, h]
    exact upd_upd (σ 75) x gp q
  · rw [if_neg h]
    unfold mw
    rw [if_neg h, if_neg h]
theorem mw_fl (σ : St) (x : Nat) (pl lb gp : Int32) (fl : Nat → Int32) (i : Nat) (q : Int32) : up (mw σ x pl lb gp fl) 76 i q = mw σ x pl lb gp (upd fl i q) := by
  funext c
  unfold up
  by_cases h : c = 76
  · rw [if_pos h, h]
    rfl
  · rw [if_neg h]
    unfold mw
    rw [if_neg h, if_neg h]
section
variable {tp : Nat → Int32} {b x p : Nat} {lb gp : Int32} {fl : Nat → Int32} {σ : St}
theorem cw42 : cw σ x (nI p) lb gp fl 4 2 = nI p := rfl
theorem cw47 (h : CB tp b x σ) : cw σ x (nI p) lb gp fl 4 7 = nI x := h.2.1
theorem mw45 : mw σ x (nI p) lb gp fl 12 45 = nI p := rfl
theorem mw74 : mw σ x (nI p) lb gp fl 74 x = lb := pk_us
theorem mw75 : mw σ x (nI p) lb gp fl 75 x = gp := pk_us
theorem c33 (h : CB tp b x σ) (hb : b ≤ 60) (hp : p < 2 ^ 30) : sp_33 (cw σ x (nI p) lb gp fl) = rt (nx tp b p) (cw σ x (nI p) lb gp fl) := by
  have e1' : cw σ x (nI p) lb gp fl 4 1 = nI b := h.1
  have e2' : cw σ x (nI p) lb gp fl 38 = tp := h.2.2
  unfold sp_33 nx
  rw [cw42, e1', e2']
  by_cases z : b ≤ p
  · rw [if_pos (nI_le z (by omega)), if_pos z]
  · rw [if_neg (nI_ge (show p < b by omega) (by omega)), if_neg z, mb_t (vp_in_nI (show p < 60 by omega) (by omega)), nI_cl (by omega)]
theorem m145 (h : MB tp b x σ) (hb : b ≤ 60) (hp : p < 2 ^ 30) : sp_145 (mw σ x (nI p) lb gp fl) = rt (nx tp b p) (mw σ x (nI p) lb gp fl) := by
  have e1' : mw σ x (nI p) lb gp fl 12 9 = nI b := h.1
  have e2' : mw σ x (nI p) lb gp fl 78 = tp := h.2.2
  unfold sp_145 nx
  rw [mw45, e1', e2']
  by_cases z : b ≤ p
  · rw [if_pos (nI_le z (by omega)), if_pos z]
  · rw [if_neg (nI_ge (show p < b by omega) (by omega)), if_neg z, mb_t (vp_in_nI (show p < 60 by omega) (by omega)), nI_cl (by omega)]
theorem cw_n (q : Nat) : up (cw σ x (nI p) lb gp fl) 4 2 (cw σ x (nI p) lb gp fl 4 2 + 1) = cw σ x (nI (p + 1)) lb gp fl := by
  rw [cw_p, cw42, nI_1]
theorem mw_n : up (mw σ x (nI p) lb gp fl) 12 45 (mw σ x (nI p) lb gp fl 12 45 + 1) = mw σ x (nI (p + 1)) lb gp fl := by
  rw [mw_p, mw45, nI_1]
theorem c37 (h : CB tp b x σ) (hb : b ≤ 60) (hp : p < 2 ^ 30) : sp_37 (cw σ x (nI p) lb gp fl) = if nx tp b p = 59 then rt 1 (cw σ x (nI (p + 1)) lb gp fl) else rt 0 (cw σ x (nI p) lb gp fl) := by
  unfold sp_37
  simp only [c33 h hb hp, bn_rt, mb_T, true_or, or_true, cw_n 0]
/-- the end of a number -/
theorem e_fin (hb : b ≤ 60) (hp : p < 2 ^ 29) {dg : Nat} (hdg : dg < 10) (v : Int32) : ∃ r p', p ≤ p' ∧ p' ≤ p + 1 ∧ (∀ σ, CB tp b x σ → (if nI dg ≤ 0 then rt (-1) (cw σ x (nI p) lb gp fl) else bn (sp_37 (cw σ x (nI p) lb gp fl)) (fun r6 σ6 => if r6 = 0 then rt (-1) σ6 else rt v σ6)) = rt r (cw σ x (nI p') lb gp fl)) ∧ (∀ ρ, MB tp b x ρ → (if nI dg = 0 then rt (-1) (mw ρ x (nI p) lb gp fl) else bn (sp_145 (mw ρ x (nI p) lb gp fl)) (fun r6 σ6 => if r6 = 59 then rt v (up σ6 12 45 (σ6 12 45 + 1)) else rt (-1) σ6)) = rt r (mw ρ x (nI p') lb gp fl)) := by
  by_cases z : dg = 0
  · subst z
    refine ⟨-1, p, by omega, by omega, ?_, ?_⟩
    · intro σ _
      rw [if_pos (by decide)]
    · intro ρ _
      rw [if_pos (by decide)]
  · have z1 : ¬ nI dg ≤ 0 := nI_nle (by omega) (by omega)
    have z2 : ¬ nI dg = 0 := nI_ne0 (by omega) (by omega)
    by_cases y : nx tp b p = 59
    · refine ⟨v, p + 1, by omega, by omega, ?_, ?_⟩
      · intro σ h
        rw [if_neg z1, c37 h hb (by omega), if_pos y, bn_rt, if_neg n10]
      · intro ρ h
        simp only [if_neg z2, m145 h hb (show p < 2 ^ 30 by omega), bn_rt, if_pos y, mw_n]
    · refine ⟨-1, p, by omega, by omega, ?_, ?_⟩
      · intro σ h
        rw [if_neg z1, c37 h hb (by omega), if_neg y, bn_rt, if_pos rfl]
      · intro ρ h
        simp only [if_neg z2, m145 h hb (show p < 2 ^ 30 by omega), bn_rt, if_neg y]
end
abbrev dig (z K : Int32) : Prop := ¬ z < 48 ∧ ¬ K < z
theorem e35 (z K : Int32) (σ : St) : sp_35 z K σ = rt (bI (dig z K)) σ := by
  unfold sp_35
  simp only [mb_T, true_or, or_true, rt_bI, it_and, it_not]
theorem e148 (z : Int32) (σ : St) : sp_148 z σ = rt (bI (dig z 57)) σ := by
  unfold sp_148
  simp only [mb_T, true_or, or_true, rt_bI, it_and, it_not]
section
variable {tp : Nat → Int32} {b x : Nat} {lb gp : Int32} {fl : Nat → Int32}
theorem e_num (hb : b ≤ 60) {M : Nat} (hM : M ≤ 3) : ∀ (rem dg p : Nat) (v : Int32), dg + rem = M → p + rem < 2 ^ 28 → ∃ r p', p ≤ p' ∧ p' ≤ p + rem + 1 ∧ (∀ σ, CB tp b x σ → ∀ f, rem < f → lp_38_4 f (nI M) v (nI dg) (cw σ x (nI p) lb gp fl) = rt r (cw σ x (nI p') lb gp fl)) ∧ (∀ ρ, MB tp b x ρ → ∀ f, rem < f → lp_147_4 f (nI M) v (nI dg) (mw ρ x (nI p) lb gp fl) = rt r (mw ρ x (nI p') lb gp fl))
  | 0, dg, p, v, hd, hp => by
    obtain ⟨r, p', h1, h2, h3, h4⟩ := e_fin (tp := tp) (x := x) (lb := lb) (gp := gp) (fl := fl) hb (show p < 2 ^ 29 by omega) (show dg < 10 by omega) v
    refine ⟨r, p', h1, by omega, ?_, ?_⟩
    · intro σ h f hf
      cases f with
      | zero => omega
      | succ f =>
        rw [lp_38_4, if_pos (nI_le (show M ≤ dg by omega) (by omega))]
        exact h3 σ h
    · intro ρ h f hf
      cases f with
      | zero => omega
      | succ f =>
        rw [lp_147_4, if_pos (nI_le (show M ≤ dg by omega) (by omega))]
        exact h4 ρ h
  | rem + 1, dg, p, v, hd, hp => by
    by_cases z : dig (nx tp b p) 57
    · obtain ⟨r, p', h1, h2, h3, h4⟩ := e_num hb hM rem (dg + 1) (p + 1) (v * 10 + nx tp b p - 48) (by omega) (by omega)
      refine ⟨r, p', by omega, by omega, ?_, ?_⟩
      · intro σ h f hf
        cases f with
        | zero => omega
        | succ f =>
          rw [lp_38_4, if_neg (nI_ge (show dg < M by omega) (by omega))]
          simp only [c33 h hb (show p < 2 ^ 30 by omega), bn_rt, e35, if_bI z, cw_n 0, nI_1]
          exact h3 σ h f (by omega)
      · intro ρ h f hf
        cases f with
        | zero => omega
        | succ f =>
          rw [lp_147_4, if_neg (nI_ge (show dg < M by omega) (by omega))]
          simp only [m145 h hb (show p < 2 ^ 30 by omega), bn_rt, e148, if_bI z, mw_n, nI_1, Int32.mul_comm 10]
          exact h4 ρ h f (by omega)
    · obtain ⟨r, p', h1, h2, h3, h4⟩ := e_fin (tp := tp) (x := x) (lb := lb) (gp := gp) (fl := fl) hb (show p < 2 ^ 29 by omega) (show dg < 10 by omega) v
      refine ⟨r, p', h1, by omega, ?_, ?_⟩
      · intro σ h f hf
        cases f with
        | zero => omega
        | succ f =>
          rw [lp_38_4, if_neg (nI_ge (show dg < M by omega) (by omega))]
          have k := h3 σ h
          simp only [c33 h hb (show p < 2 ^ 30 by omega), bn_rt, e35, bI_i0, if_neg z]
          exact k
      · intro ρ h f hf
        cases f with
        | zero => omega
        | succ f =>
          rw [lp_147_4, if_neg (nI_ge (show dg < M by omega) (by omega))]
          have k := h4 ρ h
          rw [m145 h hb (show p < 2 ^ 30 by omega), bn_rt] at k
          simp only [m145 h hb (show p < 2 ^ 30 by omega), bn_rt, e148, bI_i0, if_neg z]
          exact k
end
