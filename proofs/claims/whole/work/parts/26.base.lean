/-! pure rows: answers, ranges, folds -/
theorem mb_t {c : Prop} {t : MR} (h : c) : mb c t = t := by
  obtain ⟨a, b⟩ := t
  unfold mb
  have : (c ∧ a) = a := propext ⟨fun z => z.2, fun z => ⟨h, z⟩⟩
  simp only [this]
theorem bn_rt (r : Int32) (σ : St) (f : Int32 → St → MR) : bn (rt r σ) f = f r σ := by
  unfold bn rt
  have : (True ∧ (f r σ).1) = (f r σ).1 := propext ⟨fun z => z.2, fun z => ⟨trivial, z⟩⟩
  simp only [this]
theorem bn_id (t : MR) : bn t (fun r σ => rt r σ) = t := by
  obtain ⟨a, b⟩ := t
  unfold bn rt
  have : (a ∧ True) = a := propext ⟨fun z => z.1, fun z => ⟨z, trivial⟩⟩
  simp only [this]
/-- a truth value as the machine has it -/
def bI (p : Prop) [Decidable p] : Int32 := if p then 1 else 0
theorem bI_01 (p : Prop) [Decidable p] : bI p = 0 ∨ bI p = 1 := by unfold bI; split <;> simp
theorem bI_0 {p : Prop} [Decidable p] : bI p = 0 ↔ ¬ p := by unfold bI; split <;> simp_all
theorem bI_1 {p : Prop} [Decidable p] : bI p = 1 ↔ p := by unfold bI; split <;> simp_all
theorem bI_t {p : Prop} [Decidable p] (h : p) : bI p = 1 := if_pos h
theorem bI_f {p : Prop} [Decidable p] (h : ¬ p) : bI p = 0 := if_neg h
theorem bI_c {p q : Prop} [Decidable p] [Decidable q] (h : p ↔ q) : bI p = bI q := by unfold bI; simp [h]
/-- 0 ≤ x < n, decided -/
abbrev rg (x : Int32) (n : Nat) : Prop := 0 ≤ x.toInt ∧ x.toInt < (n : Int)
theorem rg_vp {x : Int32} {n : Nat} : vp_in x n ↔ rg x n := vp_in_iff
theorem rg_nI {i n : Nat} (h : i < n) (hn : n < 2 ^ 31) : rg (nI i) n := rg_vp.mp (vp_in_nI h hn)
theorem rg_of {x : Int32} {n : Nat} (h : rg x n) (hn : n < 2 ^ 31) : ∃ j, j < n ∧ x = nI j := vp_in_of (rg_vp.mpr h) hn
theorem rg_iff {i n : Nat} (hi : i < 2 ^ 31) : rg (nI i) n ↔ i < n := by
  show 0 ≤ (nI i).toInt ∧ (nI i).toInt < (n : Int) ↔ _
  rw [nI_toInt hi]
  omega
theorem xlt0 {x : Int32} : x < 0 ↔ x.toInt < 0 := by rw [Int32.lt_iff_toInt_lt]; rfl
theorem le_nI {x : Int32} {n : Nat} (hn : n < 2 ^ 31) : nI n ≤ x ↔ (n : Int) ≤ x.toInt := by rw [Int32.le_iff_toInt_le, nI_toInt hn]
theorem lt_nI {x : Int32} {n : Nat} (hn : n < 2 ^ 31) : nI n < x ↔ (n : Int) < x.toInt := by rw [Int32.lt_iff_toInt_lt, nI_toInt hn]
theorem nI_lt' {x : Int32} {n : Nat} (hn : n < 2 ^ 31) : x < nI n ↔ x.toInt < (n : Int) := by rw [Int32.lt_iff_toInt_lt, nI_toInt hn]
theorem nI_le' {x : Int32} {n : Nat} (hn : n < 2 ^ 31) : x ≤ nI n ↔ x.toInt ≤ (n : Int) := by rw [Int32.le_iff_toInt_le, nI_toInt hn]
/-- a fold over the places i, i + 1, .., i + j - 1 -/
def fol {α : Type} (f : Nat → α → α) : Nat → Nat → α → α
  | _, 0, a => a
  | i, j + 1, a => fol f (i + 1) j (f i a)
theorem fol_last {α : Type} (f : Nat → α → α) : ∀ (j i : Nat) (a : α), fol f i (j + 1) a = f (i + j) (fol f i j a)
  | 0, i, a => rfl
  | j + 1, i, a => by
    show fol f (i + 1) (j + 1) (f i a) = f (i + (j + 1)) (fol f (i + 1) j (f i a))
    rw [fol_last f j (i + 1) (f i a), show i + 1 + j = i + (j + 1) by omega]
theorem fol_congr {α : Type} {f g : Nat → α → α} : ∀ (j i : Nat) (a : α), (∀ k a, i ≤ k → k < i + j → f k a = g k a) → fol f i j a = fol g i j a
  | 0, i, a, _ => rfl
  | j + 1, i, a, h => by
    show fol f (i + 1) j (f i a) = fol g (i + 1) j (g i a)
    rw [h i a (Nat.le_refl _) (by omega)]
    exact fol_congr j (i + 1) (g i a) (fun k a h1 h2 => h k a (by omega) (by omega))
/-- a counting loop -/
theorem cloop {α : Type} (Lp : Nat → Nat → α → MR) (f : Nat → α → α) (E : α → MR) (m : Nat) (hx : ∀ n a, Lp (n + 1) m a = E a) (hs : ∀ n i a, i < m → Lp (n + 1) i a = Lp n (i + 1) (f i a)) : ∀ (j i n : Nat) (a : α), i + j = m → j < n → Lp n i a = E (fol f i j a)
  | 0, i, n + 1, a, h, _ => by
    have h : i = m := h
    subst h
    exact hx n a
  | j + 1, i, n + 1, a, h, hn => by
    rw [hs n i a (by omega), cloop Lp f E m hx hs j (i + 1) n (f i a) (by omega) (by omega)]
    rfl
  | 0, _, 0, _, _, h => absurd h (by omega)
  | _ + 1, _, 0, _, _, h => absurd h (by omega)
theorem FU_big {j : Nat} (h : j < 5000) : j < FU := h
theorem nI_cl {i : Nat} (h : i < 2 ^ 31) : (nI i).toNatClampNeg = i := nI_clamp h
/-- findings, told of the class and of the model -/
def fT (k : Nat) (σ : St) : St := up σ 14 k (σ 14 k + 1)
def fM (k : Nat) (σ : St) : St := up σ 80 k (σ 80 k + 1)
theorem e2 {k : Nat} (hk : k < 6) (σ : St) : sp_2 (nI k) σ = rt (-1000000 - nI k) (fT k σ) := by
  unfold sp_2 fT
  have h := vp_in_nI hk (show 6 < 2 ^ 31 by omega)
  rw [mb_t h, mb_t h, nI_cl (by omega)]
theorem e125 {k : Nat} (hk : k < 6) (σ : St) : sp_125 (nI k) σ = rt (-1000000 - nI k) (fM k σ) := by
  unfold sp_125 fM
  have h := vp_in_nI hk (show 6 < 2 ^ 31 by omega)
  rw [mb_t h, mb_t h, nI_cl (by omega)]
theorem b00 : (0 : Int32) = 0 ∨ (0 : Int32) = 1 := Or.inl rfl
theorem b11 : (1 : Int32) = 0 ∨ (1 : Int32) = 1 := Or.inr rfl
/-- isBelow and in -/
theorem e1 (x : Int32) {n : Nat} (hn : n < 2 ^ 31) (σ : St) : sp_1 x (nI n) σ = rt (bI (rg x n)) σ := by
  unfold sp_1
  rw [mb_t b00, mb_t b11]
  by_cases h0 : x < 0
  · rw [if_pos h0, bI_f (fun h => by have := xlt0.mp h0; have := h.1; omega)]
  · rw [if_neg h0]
    by_cases h1 : nI n ≤ x
    · rw [if_pos h1, bI_f (fun h => by have := (le_nI hn).mp h1; have := h.2; omega)]
    · rw [if_neg h1, bI_t ⟨by have : 0 ≤ x.toInt := Int.not_lt.mp (fun z => h0 (xlt0.mpr z)); omega, by have : x.toInt < (n : Int) := Int.not_le.mp (fun z => h1 ((le_nI hn).mpr z)); omega⟩]
theorem e123 (x : Int32) {n : Nat} (hn : n + 1 < 2 ^ 31) (σ : St) : sp_123 x 0 (nI n) σ = rt (bI (rg x (n + 1))) σ := by
  unfold sp_123
  rw [mb_t b00, mb_t b11]
  by_cases h0 : x < 0
  · rw [if_pos h0, bI_f (fun h => by have := xlt0.mp h0; have := h.1; omega)]
  · rw [if_neg h0]
    by_cases h1 : nI n < x
    · rw [if_pos h1, bI_f (fun h => by have := (lt_nI (by omega)).mp h1; have := h.2; omega)]
    · rw [if_neg h1, bI_t ⟨by have : 0 ≤ x.toInt := Int.not_lt.mp (fun z => h0 (xlt0.mpr z)); omega, by have : x.toInt ≤ (n : Int) := Int.not_lt.mp (fun z => h1 ((lt_nI (by omega)).mpr z)); omega⟩]
/-- the model's check against a count: in(x, 0, n - 1) -/
theorem e123c (x : Int32) {n : Nat} (hn : n < 2 ^ 31) (σ : St) : sp_123 x 0 (nI n - 1) σ = rt (bI (rg x n)) σ := by
  cases n with
  | zero =>
    unfold sp_123
    rw [mb_t b00, mb_t b11]
    by_cases h0 : x < 0
    · rw [if_pos h0, bI_f (fun h => by have := h.1; have := h.2; omega)]
    · rw [if_neg h0]
      have h1 : nI 0 - 1 < x := by
        rw [Int32.lt_iff_toInt_lt]
        have : (nI 0 - 1).toInt = -1 := rfl
        have : 0 ≤ x.toInt := Int.not_lt.mp (fun z => h0 (xlt0.mpr z))
        omega
      rw [if_pos h1, bI_f (fun h => by have := h.1; have := h.2; omega)]
  | succ n =>
    have e : nI (n + 1) - 1 = nI n := nI_pred n
    rw [e]
    exact e123 x hn σ
theorem e124 (x : Int32) (σ : St) : sp_124 x σ = rt (bI (rg x 10000)) σ := by
  have h := e123 x (n := 9999) (by omega) σ
  unfold sp_124
  rw [show (9999 : Int32) = nI 9999 from rfl, h, bn_rt, mb_t (bI_01 _)]
