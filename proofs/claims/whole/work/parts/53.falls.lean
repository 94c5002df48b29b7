/-! pairs: falls -/
/-- miles at the test ahead -/
def maF (vh ml : Nat → Int32) (v : Int32) : Nat → Int32
  | 0 => 0
  | k + 1 => if vh k = v then ml k else maF vh ml v k
def ahF (vh : Nat → Int32) (v : Int32) : Nat → Int32
  | 0 => -1
  | k + 1 => if vh k = v then nI k else ahF vh v k
theorem ah_cs (vh ml : Nat → Int32) (v : Int32) : ∀ k, (ahF vh v k = -1 ∧ maF vh ml v k = 0) ∨ ∃ j, j < k ∧ ahF vh v k = nI j ∧ maF vh ml v k = ml j
  | 0 => Or.inl ⟨rfl, rfl⟩
  | k + 1 => by
    show ((if vh k = v then nI k else ahF vh v k) = -1 ∧ (if vh k = v then ml k else maF vh ml v k) = 0) ∨ ∃ j, j < k + 1 ∧ (if vh k = v then nI k else ahF vh v k) = nI j ∧ (if vh k = v then ml k else maF vh ml v k) = ml j
    by_cases h : vh k = v
    · rw [if_pos h, if_pos h]
      exact Or.inr ⟨k, by omega, rfl, rfl⟩
    · rw [if_neg h, if_neg h]
      rcases ah_cs vh ml v k with z | ⟨j, hj, z⟩
      · exact Or.inl z
      · exact Or.inr ⟨j, by omega, z⟩
theorem ahF_fol (vh : Nat → Int32) (v : Int32) : ∀ k, fol (fun k g => if vh k = v then nI k else g) 0 k (-1) = ahF vh v k
  | 0 => rfl
  | k + 1 => by
    rw [fol_last, ahF_fol vh v k, Nat.zero_add]
    rfl
/-- miles at the test behind -/
def bhF (vh ml : Nat → Int32) (v : Int32) : Nat → Nat → Int32
  | _, 0 => 999999
  | i, j + 1 => if vh i = v then ml i else bhF vh ml v (i + 1) j
def bhI (vh : Nat → Int32) (v : Int32) : Nat → Nat → Int32
  | i, 0 => nI i
  | i, j + 1 => if vh i = v then nI i else bhI vh v (i + 1) j
theorem bh_cs (vh ml : Nat → Int32) (v : Int32) : ∀ j i, (bhI vh v i j = nI (i + j) ∧ bhF vh ml v i j = 999999) ∨ ∃ k, i ≤ k ∧ k < i + j ∧ bhI vh v i j = nI k ∧ bhF vh ml v i j = ml k
  | 0, i => Or.inl ⟨rfl, rfl⟩
  | j + 1, i => by
    show ((if vh i = v then nI i else bhI vh v (i + 1) j) = nI (i + (j + 1)) ∧ (if vh i = v then ml i else bhF vh ml v (i + 1) j) = 999999) ∨ ∃ k, i ≤ k ∧ k < i + (j + 1) ∧ (if vh i = v then nI i else bhI vh v (i + 1) j) = nI k ∧ (if vh i = v then ml i else bhF vh ml v (i + 1) j) = ml k
    by_cases h : vh i = v
    · rw [if_pos h, if_pos h]
      exact Or.inr ⟨i, by omega, by omega, rfl, rfl⟩
    · rw [if_neg h, if_neg h]
      rcases bh_cs vh ml v j (i + 1) with ⟨z1, z2⟩ | ⟨k, h1, h2, z⟩
      · exact Or.inl ⟨by rw [z1]; congr 1; omega, z2⟩
      · exact Or.inr ⟨k, by omega, by omega, z⟩
/-- a typed digit -/
abbrev tyP (V L U u e : Nat) : Prop := L ≤ V + (e + 1) * u ∧ V + (e + 1) * u ≤ U
def tyB (V L U u : Nat) : Bool := sr (fun e => decide (tyP V L U u e)) 0 (9 - V / u % 10)
def tyF (V L U : Nat) : Nat → Nat → Bool
  | 0, _ => false
  | k + 1, u => if u = 1 ∨ u ≤ V then (tyB V L U u || tyF V L U k (u * 10)) else false
section
variable {σ : St} {V L U u : Nat}
theorem ty_b (hV : V < 1000000) (hu : u ≤ 100000) {e : Nat} (he : e < 9) : V + (e + 1) * u < 2000000 := by
  have : (e + 1) * u ≤ 9 * 100000 := Nat.mul_le_mul (by omega) hu
  omega
theorem e79i (ko : Int32 → Int32 → Int32 → Int32 → St → MR) (hV : V < 1000000) (hL : L < 1000000) (hU : U < 1000000) (hu : u ≤ 100000) : lp_79_31 ko FU (nI V) (nI L) (nI U) (nI u) (nI V) (nI (V / u % 10 + 1)) σ = if tyB V L U u = true then rt 1 σ else ko (nI V) (nI L) (nI U) (nI u * 10) σ := by
  have hd : V / u % 10 < 10 := Nat.mod_lt _ (by omega)
  generalize hD : V / u % 10 = D at hd
  unfold tyB
  rw [hD]
  have h := sloop (fun f e => lp_79_31 ko f (nI V) (nI L) (nI U) (nI u) (nI (V + e * u)) (nI (D + 1 + e)) σ) (fun e => tyP V L U u e) (rt 1 σ) (ko (nI V) (nI L) (nI U) (nI u * 10) σ) (9 - D) ?_ ?_ (9 - D) 0 FU (by omega) (FU_big (by omega))
  · have h : lp_79_31 ko FU (nI V) (nI L) (nI U) (nI u) (nI (V + 0 * u)) (nI (D + 1 + 0)) σ = _ := h
    rw [Nat.zero_mul, Nat.add_zero, Nat.add_zero] at h
    exact h
  · intro f
    show lp_79_31 ko (f + 1) (nI V) (nI L) (nI U) (nI u) (nI (V + (9 - D) * u)) (nI (D + 1 + (9 - D))) σ = _
    rw [lp_79_31, show D + 1 + (9 - D) = 10 by omega, if_pos (show (10 : Int32) ≤ nI 10 by decide)]
  · intro f e he
    show lp_79_31 ko (f + 1) (nI V) (nI L) (nI U) (nI u) (nI (V + e * u)) (nI (D + 1 + e)) σ = if tyP V L U u e then rt 1 σ else lp_79_31 ko f (nI V) (nI L) (nI U) (nI u) (nI (V + (e + 1) * u)) (nI (D + 1 + (e + 1))) σ
    have hb := ty_b (V := V) (u := u) hV hu (show e < 9 by omega)
    have e1' : V + e * u + u = V + (e + 1) * u := by rw [Nat.add_mul, Nat.one_mul, Nat.add_assoc]
    have hne : ¬ (10 : Int32) ≤ nI (D + 1 + e) := nI_ge (b := 10) (by omega) (show 10 < 2 ^ 31 by decide)
    rw [lp_79_31, if_neg hne, nI_add, e1', nI_1, mb_t b11, show D + 1 + e + 1 = D + 1 + (e + 1) by omega]
    show _ = if L ≤ V + (e + 1) * u ∧ V + (e + 1) * u ≤ U then _ else _
    generalize hX : V + (e + 1) * u = X at hb ⊢
    by_cases z1 : L ≤ X
    · rw [if_neg (nI_nlt z1 (by omega))]
      by_cases z2 : X ≤ U
      · rw [if_neg (nI_nlt z2 (by omega)), if_pos ⟨z1, z2⟩]
      · rw [if_pos (nI_lt (by omega) (by omega)), if_neg (fun z => z2 z.2)]
    · rw [if_pos (nI_lt (by omega) (by omega)), if_neg (fun z => z1 z.1)]
theorem e171i (ko : Int32 → Int32 → Int32 → Int32 → St → MR) (z : Int32) {d0 : Nat} (hd0 : d0 ≤ 1) (hV : V < 1000000) (hL : L < 1000000) (hU : U < 1000000) (hVL : V < L) (hu : u ≤ 100000) (hu0 : 0 < u) : lp_171_52 ko FU (nI V) (nI L) (nI U) (nI u) (nI (V / u % 10)) z (nI d0) σ = if tyB V L U u = true then rt 1 σ else ko (nI V) (nI L) (nI U) (nI u * 10) σ := by
  have hd : V / u % 10 < 10 := Nat.mod_lt _ (by omega)
  have hdu : (V / u % 10) * u ≤ V := Nat.le_trans (Nat.mul_le_mul_right u (Nat.mod_le _ _)) (Nat.div_mul_le_self _ _)
  have hP : tyB V L U u = true ↔ sr (fun d => decide (V / u % 10 < d ∧ L ≤ V + (d - V / u % 10) * u ∧ V + (d - V / u % 10) * u ≤ U)) d0 (10 - d0) = true := by
    unfold tyB
    rw [sr_iff, sr_iff]
    constructor
    · rintro ⟨e, _, h2, h3⟩
      have h3 : tyP V L U u e := of_decide_eq_true h3
      refine ⟨V / u % 10 + 1 + e, by omega, by omega, decide_eq_true ⟨by omega, ?_⟩⟩
      rw [show V / u % 10 + 1 + e - V / u % 10 = e + 1 by omega]
      exact h3
    · rintro ⟨d, h1, h2, h3⟩
      have h3 := of_decide_eq_true h3
      refine ⟨d - V / u % 10 - 1, by omega, by omega, decide_eq_true ?_⟩
      show L ≤ V + (d - V / u % 10 - 1 + 1) * u ∧ V + (d - V / u % 10 - 1 + 1) * u ≤ U
      rw [show d - V / u % 10 - 1 + 1 = d - V / u % 10 by omega]
      exact h3.2
  have h := sloop (fun f d => lp_171_52 ko f (nI V) (nI L) (nI U) (nI u) (nI (V / u % 10)) z (nI d) σ) (fun d => V / u % 10 < d ∧ L ≤ V + (d - V / u % 10) * u ∧ V + (d - V / u % 10) * u ≤ U) (rt 1 σ) (ko (nI V) (nI L) (nI U) (nI u * 10) σ) 10 ?_ ?_ (10 - d0) d0 FU (by omega) (FU_big (by omega))
  · have h : lp_171_52 ko FU (nI V) (nI L) (nI U) (nI u) (nI (V / u % 10)) z (nI d0) σ = _ := h
    rw [h]
    by_cases q : tyB V L U u = true
    · rw [if_pos q, if_pos (hP.mp q)]
    · rw [if_neg q, if_neg (fun y => q (hP.mpr y))]
  · intro f
    show lp_171_52 ko (f + 1) (nI V) (nI L) (nI U) (nI u) (nI (V / u % 10)) z (nI 10) σ = _
    rw [lp_171_52, if_pos (show (10 : Int32) ≤ nI 10 by decide)]
  · intro f d hd10
    show lp_171_52 ko (f + 1) (nI V) (nI L) (nI U) (nI u) (nI (V / u % 10)) z (nI d) σ = if V / u % 10 < d ∧ L ≤ V + (d - V / u % 10) * u ∧ V + (d - V / u % 10) * u ≤ U then rt 1 σ else lp_171_52 ko f (nI V) (nI L) (nI U) (nI u) (nI (V / u % 10)) z (nI (d + 1)) σ
    generalize hD : V / u % 10 = D at hd hdu
    have hne : ¬ (10 : Int32) ≤ nI d := nI_ge (b := 10) (by omega) (show 10 < 2 ^ 31 by decide)
    rw [lp_171_52, if_neg hne, nI_1]
    simp only [mb_T, or_true]
    by_cases z0 : d = D
    · rw [if_pos (by rw [z0]), if_neg (fun y => by have := y.1; omega)]
    · rw [if_neg (fun y => z0 ((nI_eq (by omega) (by omega)).mp y))]
      by_cases z1 : D < d
      · have hb := ty_b (V := V) (u := u) hV hu (show d - D - 1 < 9 by omega)
        rw [show d - D - 1 + 1 = d - D by omega] at hb
        have ev : nI V + (nI d - nI D) * nI u = nI (V + (d - D) * u) := by rw [pk_sub (by omega), pk_mul, nI_add]
        rw [ev]
        generalize V + (d - D) * u = X at hb
        by_cases y1 : L ≤ X
        · by_cases y2 : X ≤ U
          · rw [e123_in (nI_nlt y1 (by omega)) (nI_nlt y2 (by omega)), bn_rt, if_neg n10, if_pos ⟨z1, y1, y2⟩]
          · rw [e123_hi (nI_lt (by omega) (by omega)), bn_rt, if_pos (show (0 : Int32) = 0 from rfl), if_neg (fun y => y2 y.2.2)]
        · rw [e123_lo (nI_lt (by omega) (by omega)), bn_rt, if_pos (show (0 : Int32) = 0 from rfl), if_neg (fun y => y1 y.2.1)]
      · have hx : (D - d) * u ≤ D * u := Nat.mul_le_mul_right u (by omega)
        have ev : nI V + (nI d - nI D) * nI u = nI (V - (D - d) * u) := by
          have q : (nI d - nI D) * nI u = -(nI ((D - d) * u)) := by
            rw [← pk_mul, ← pk_sub (show d ≤ D by omega), ← Int32.neg_mul, Int32.neg_sub]
          rw [q, ← Int32.sub_eq_add_neg, pk_sub (by omega)]
        rw [ev, e123_lo (nI_lt (show V - (D - d) * u < L by omega) (by omega)), bn_rt, if_pos (show (0 : Int32) = 0 from rfl), if_neg (fun y => z1 y.1)]
theorem e79o (hV : V < 1000000) (hL : L < 1000000) (hU : U < 1000000) : ∀ (k u f : Nat), u * 10 ^ k = 1000000 → k < f → lp_79_2 f (nI V) (nI L) (nI U) (nI u) σ = rt (bI (tyF V L U k u = true)) σ
  | 0, u, f + 1, hu, _ => by
    rw [lp_79_2, show u = 1000000 by simpa using hu, if_pos (show (1000000 : Int32) ≤ nI 1000000 by decide), mb_t b00, bI_f]
    intro z
    cases z
  | k + 1, u, f + 1, hu, hf => by
    have hu2 : u * 10 * 10 ^ k = 1000000 := by
      rw [← hu, Nat.pow_succ, Nat.mul_comm (10 ^ k) 10, Nat.mul_assoc]
    have hp : 1 ≤ 10 ^ k := Nat.pow_pos (by omega)
    have hu5 : u ≤ 100000 := by
      have := Nat.le_mul_of_pos_right (u * 10) hp
      omega
    have hu0 : 0 < u := by
      apply Nat.pos_of_ne_zero
      rintro rfl
      omega
    have hne : ¬ (1000000 : Int32) ≤ nI u := nI_ge (b := 1000000) (by omega) (show 1000000 < 2 ^ 31 by decide)
    have hun : ¬ nI u = 0 := nI_ne0 hu0 (by omega)
    have k1 : nI V / nI u = nI (V / u) := pk_div (by omega) hu0 (by omega)
    have hq : V / u < 2 ^ 31 := Nat.lt_of_le_of_lt (Nat.div_le_self _ _) (by omega)
    have k2 : nI (V / u) - nI (V / u) / 10 * 10 = nI (V / u % 10) := pk_rem (d := 10) hq (by omega) (by omega)
    have kin : lp_79_31 (fun v0 v1 v2 v3 σ => lp_79_2 f v0 v1 v2 v3 σ) FU (nI V) (nI L) (nI U) (nI u) (nI V) (nI (V / u) - nI (V / u) / 10 * 10 + 1) σ = rt (bI ((tyB V L U u || tyF V L U k (u * 10)) = true)) σ := by
      rw [k2, nI_1, e79i _ hV hL hU hu5]
      by_cases z : tyB V L U u = true
      · rw [if_pos z, bI_t (by rw [z]; rfl)]
      · rw [if_neg z]
        show lp_79_2 f (nI V) (nI L) (nI U) (nI u * nI 10) σ = _
        rw [pk_mul, e79o hV hL hU k (u * 10) f hu2 (by omega)]
        congr 1
        apply bI_c
        rw [Bool.or_eq_true]
        exact ⟨Or.inr, fun y => y.elim (fun y => absurd y z) id⟩
    have et : tyF V L U (k + 1) u = if u = 1 ∨ u ≤ V then (tyB V L U u || tyF V L U k (u * 10)) else false := rfl
    rw [lp_79_2, if_neg hne, k1, mb_t hun, mb_t (show ¬ (10 : Int32) = 0 by decide), kin, mb_t b00, et]
    by_cases z1 : u = 1
    · rw [if_pos (by rw [z1]; rfl), if_pos (Or.inl z1)]
    · rw [if_neg (show ¬ nI u = 1 from fun y => z1 ((nI_eq (b := 1) (by omega) (by omega)).mp y))]
      by_cases z2 : u ≤ V
      · rw [if_neg (nI_nlt z2 (by omega)), if_pos (Or.inr z2)]
      · rw [if_pos (nI_lt (by omega) (by omega)), if_neg (fun y => y.elim z1 z2), bI_f]
        intro z
        cases z
  | 0, _, 0, _, h => absurd h (by omega)
  | _ + 1, _, 0, _, h => absurd h (by omega)
theorem e171o (hV : V < 1000000) (hL : L < 1000000) (hU : U < 1000000) (hVL : V < L) : ∀ (k u f : Nat), u * 10 ^ k = 1000000 → k < f → lp_171_2 f (nI V) (nI L) (nI U) (nI u) σ = rt (bI (tyF V L U k u = true)) σ
  | 0, u, f + 1, hu, _ => by
    have hu : u = 1000000 := by simpa using hu
    rw [lp_171_2, hu, if_neg (show ¬ nI 1000000 = 1 by decide), if_pos (nI_lt hV (by omega)), mb_t b00, bI_f]
    intro z
    cases z
  | k + 1, u, f + 1, hu, hf => by
    have hu2 : u * 10 * 10 ^ k = 1000000 := by
      rw [← hu, Nat.pow_succ, Nat.mul_comm (10 ^ k) 10, Nat.mul_assoc]
    have hp : 1 ≤ 10 ^ k := Nat.pow_pos (by omega)
    have hu5 : u ≤ 100000 := by
      have := Nat.le_mul_of_pos_right (u * 10) hp
      omega
    have hu0 : 0 < u := by
      apply Nat.pos_of_ne_zero
      rintro rfl
      omega
    have hun : ¬ nI u = 0 := nI_ne0 hu0 (by omega)
    have k1 : nI V / nI u = nI (V / u) := pk_div (by omega) hu0 (by omega)
    have hq : V / u < 2 ^ 31 := Nat.lt_of_le_of_lt (Nat.div_le_self _ _) (by omega)
    have k2 : nI (V / u) - nI (V / u) / 10 * 10 = nI (V / u % 10) := pk_rem (d := 10) hq (by omega) (by omega)
    have kin : ∀ (d0 : Nat) (y : Int32), d0 ≤ 1 → lp_171_52 (fun v0 v1 v2 v3 σ => lp_171_2 f v0 v1 v2 v3 σ) FU (nI V) (nI L) (nI U) (nI u) (nI (V / u) - nI (V / u) / 10 * 10) y (nI d0) σ = rt (bI ((tyB V L U u || tyF V L U k (u * 10)) = true)) σ := by
      intro d0 y hd0
      rw [k2, e171i _ y hd0 hV hL hU hVL hu5 hu0]
      by_cases z : tyB V L U u = true
      · rw [if_pos z, bI_t (by rw [z]; rfl)]
      · rw [if_neg z]
        show lp_171_2 f (nI V) (nI L) (nI U) (nI u * nI 10) σ = _
        rw [pk_mul, e171o hV hL hU hVL k (u * 10) f hu2 (by omega)]
        congr 1
        apply bI_c
        rw [Bool.or_eq_true]
        exact ⟨Or.inr, fun y => y.elim (fun y => absurd y z) id⟩
    have kin0 := fun y => kin 0 y (by omega)
    have kin1 := fun y => kin 1 y (by omega)
    rw [show nI 0 = 0 from rfl] at kin0
    rw [show nI 1 = 1 from rfl] at kin1
    have et : tyF V L U (k + 1) u = if u = 1 ∨ u ≤ V then (tyB V L U u || tyF V L U k (u * 10)) else false := rfl
    rw [lp_171_2, et]
    simp only [k1, mb_t hun, mb_t (show ¬ (10 : Int32) = 0 by decide), kin0, kin1, ite_self, mb_T, true_or]
    by_cases z1 : u = 1
    · rw [if_pos (by rw [z1]; rfl), if_pos (Or.inl z1)]
    · rw [if_neg (show ¬ nI u = 1 from fun y => z1 ((nI_eq (b := 1) (by omega) (by omega)).mp y))]
      by_cases z2 : u ≤ V
      · rw [if_neg (nI_nlt z2 (by omega)), if_pos (Or.inr z2)]
      · rw [if_pos (nI_lt (by omega) (by omega)), if_neg (fun y => y.elim z1 z2), bI_f]
        intro z
        cases z
  | 0, _, 0, _, h => absurd h (by omega)
  | _ + 1, _, 0, _, h => absurd h (by omega)
end
