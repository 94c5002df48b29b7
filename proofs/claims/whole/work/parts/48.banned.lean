/-! pairs: banned -/
def sN (c : Nat → Prop) [DecidablePred c] (q : Nat → Nat) : Nat → Nat
  | 0 => 0
  | n + 1 => sN c q n + (if c n then q n else 0)
theorem sN_le (c1 c2 : Nat → Prop) [DecidablePred c1] [DecidablePred c2] (q : Nat → Nat) : ∀ n, (∀ k, k < n → c1 k → c2 k ∨ q k = 0) → sN c1 q n ≤ sN c2 q n
  | 0, _ => Nat.le_refl _
  | n + 1, h => by
    show sN c1 q n + (if c1 n then q n else 0) ≤ sN c2 q n + (if c2 n then q n else 0)
    have ih := sN_le c1 c2 q n (fun k hk => h k (by omega))
    have hn := h n (by omega)
    by_cases h1 : c1 n
    · rw [if_pos h1]
      by_cases h2 : c2 n
      · rw [if_pos h2]
        omega
      · rcases hn h1 with z | z
        · exact absurd z h2
        · omega
    · rw [if_neg h1]
      omega
theorem sN_0 (c : Nat → Prop) [DecidablePred c] (q : Nat → Nat) : ∀ n, (∀ k, k < n → ¬ c k) → sN c q n = 0
  | 0, _ => rfl
  | n + 1, h => by
    show sN c q n + (if c n then q n else 0) = 0
    rw [sN_0 c q n (fun k hk => h k (by omega)), if_neg (h n (by omega))]
theorem sN_bd (c : Nat → Prop) [DecidablePred c] (q : Nat → Nat) (B : Nat) : ∀ n, (∀ k, k < n → q k ≤ B) → sN c q n ≤ B * n
  | 0, _ => Nat.zero_le _
  | n + 1, h => by
    show sN c q n + (if c n then q n else 0) ≤ B * (n + 1)
    have ih := sN_bd c q B n (fun k hk => h k (by omega))
    have hn := h n (by omega)
    rw [Nat.mul_add, Nat.mul_one]
    split <;> omega
abbrev cZ (σ : St) (a : Int32) (z : Int) (k : Nat) : Prop := σ 25 k = a ∧ (σ 26 k).toInt ≤ z ∧ z - (σ 46 0).toInt < (σ 26 k).toInt
abbrev qN (σ : St) (m n x k : Nat) : Nat := (pt σ m n x k).toNatClampNeg
def SN (σ : St) (m n x : Nat) (a : Int32) (z : Int) : Nat := sN (cZ σ a z) (qN σ m n x) n
/-- the days on which points were too many: as the class looks for them -/
def bnC (σ : St) (m n x : Nat) (a : Int32) (f d : Int) (l : Nat) : Prop := l ≤ SN σ m n x a f ∨ ∃ k, k < n ∧ σ 25 k = a ∧ f < (σ 26 k).toInt ∧ (σ 26 k).toInt ≤ d ∧ 0 < qN σ m n x k ∧ l ≤ SN σ m n x a (σ 26 k).toInt
/-- and as the model does -/
def bnM (σ : St) (m n x : Nat) (a : Int32) (f d : Int) (l : Nat) : Prop := ∃ z : Int, f ≤ z ∧ z ≤ d ∧ 0 ≤ z ∧ l ≤ SN σ m n x a z
theorem SN_step {σ : St} {m n x : Nat} {a : Int32} {z : Int} (h : ∀ k, k < n → σ 25 k = a → (σ 26 k).toInt = z → qN σ m n x k = 0) : SN σ m n x a z ≤ SN σ m n x a (z - 1) := by
  unfold SN
  refine sN_le _ _ _ n ?_
  intro k hk ⟨h1, h2, h3⟩
  by_cases e : (σ 26 k).toInt = z
  · exact Or.inr (h k hk h1 e)
  · exact Or.inl ⟨h1, by omega, by omega⟩
theorem ban_find {σ : St} {m n x : Nat} {a : Int32} {f : Int} {l : Nat} : ∀ (j : Nat), l ≤ SN σ m n x a (f + j) → bnC σ m n x a f (f + j) l
  | 0, h => Or.inl (by simpa using h)
  | j + 1, h => by
    by_cases h1 : l ≤ SN σ m n x a (f + j)
    · rcases ban_find j h1 with z | ⟨k, z1, z2, z3, z4, z5, z6⟩
      · exact Or.inl z
      · exact Or.inr ⟨k, z1, z2, z3, by omega, z5, z6⟩
    · apply Classical.byContradiction
      intro hn
      have hs : SN σ m n x a (f + (j + 1 : Nat)) ≤ SN σ m n x a (f + (j + 1 : Nat) - 1) := by
        apply SN_step
        intro k hk h2 h3
        apply Classical.byContradiction
        intro h4
        apply hn
        refine Or.inr ⟨k, hk, h2, by omega, by omega, by omega, ?_⟩
        rw [h3]
        exact h
      rw [show f + ((j + 1 : Nat) : Int) - 1 = f + (j : Int) by omega] at hs
      omega
theorem ban_iff {σ : St} {m n x : Nat} {a : Int32} {f d : Int} {l : Nat} (hl : 1 ≤ l) (hfd : f ≤ d) (hD : ∀ k, k < n → 0 ≤ (σ 26 k).toInt) : bnC σ m n x a f d l ↔ bnM σ m n x a f d l := by
  constructor
  · rintro (h | ⟨k, h1, h2, h3, h4, h5, h6⟩)
    · refine ⟨f, Int.le_refl _, hfd, ?_, h⟩
      apply Classical.byContradiction
      intro hn
      have h0 : SN σ m n x a f = 0 := by
        unfold SN
        refine sN_0 _ _ n ?_
        rintro k hk ⟨_, z, _⟩
        have := hD k hk
        omega
      omega
    · exact ⟨(σ 26 k).toInt, by omega, h4, hD k h1, h6⟩
  · rintro ⟨z, h1, h2, h3, h4⟩
    have e : f + ((z - f).toNat : Int) = z := by omega
    have h5 := ban_find (σ := σ) (m := m) (n := n) (x := x) (a := a) (f := f) (l := l) (z - f).toNat (by rw [e]; exact h4)
    rw [e] at h5
    rcases h5 with q | ⟨k, q1, q2, q3, q4, q5, q6⟩
    · exact Or.inl q
    · exact Or.inr ⟨k, q1, q2, q3, by omega, q5, q6⟩
section
variable {σ : St} {v g t m n x s b w : Nat}
theorem Wf.ptN (H : Wf σ v g t m n x s b w) {k : Nat} (hk : k < n) : pt σ m n x k = nI (qN σ m n x k) ∧ qN σ m n x k ≤ 93 := by
  obtain ⟨p, hp, e⟩ := H.ptrg hk
  show pt σ m n x k = nI (pt σ m n x k).toNatClampNeg ∧ (pt σ m n x k).toNatClampNeg ≤ 93
  rw [e, nI_cl (by omega)]
  exact ⟨rfl, hp⟩
theorem Wf.smN (H : Wf σ v g t m n x s b w) (a : Int32) {d : Int32} (hd : dy d) : sm σ m n x a d = nI (SN σ m n x a d.toInt) ∧ SN σ m n x a d.toInt ≤ 7440 := by
  have hn := H.n2
  have hL := H.dru.1
  have hy : (d - σ 46 0).toInt = d.toInt - (σ 46 0).toInt := i32_sub (by omega) (by omega)
  have hc : ∀ k, smP σ a d k ↔ cZ σ a d.toInt k := by
    intro k
    have q1 : ¬ d < σ 26 k ↔ (σ 26 k).toInt ≤ d.toInt := by
      rw [Int32.not_lt, Int32.le_iff_toInt_le]
    have q2 : ¬ σ 26 k ≤ d - σ 46 0 ↔ d.toInt - (σ 46 0).toInt < (σ 26 k).toInt := by
      rw [Int32.not_le, Int32.lt_iff_toInt_lt, hy]
    show (σ 25 k = a ∧ ¬ d < σ 26 k ∧ ¬ σ 26 k ≤ d - σ 46 0) ↔ (σ 25 k = a ∧ (σ 26 k).toInt ≤ d.toInt ∧ d.toInt - (σ 46 0).toInt < (σ 26 k).toInt)
    rw [q1, q2]
  have hall : ∀ j, j ≤ n → fol (fun k c => if smP σ a d k then c + pt σ m n x k else c) 0 j 0 = nI (sN (cZ σ a d.toInt) (qN σ m n x) j) := by
    intro j
    induction j with
    | zero => intro _; rfl
    | succ j ih =>
      intro hj
      rw [fol_last, Nat.zero_add, ih (by omega)]
      show (if smP σ a d j then _ + pt σ m n x j else _) = nI (sN (cZ σ a d.toInt) (qN σ m n x) j + (if cZ σ a d.toInt j then qN σ m n x j else 0))
      by_cases z : smP σ a d j
      · rw [if_pos z, if_pos ((hc j).mp z), (H.ptN (show j < n by omega)).1, nI_add]
      · rw [if_neg z, if_neg (fun q => z ((hc j).mpr q)), Nat.add_zero]
  refine ⟨hall n (Nat.le_refl n), ?_⟩
  have hb := sN_bd (cZ σ a d.toInt) (qN σ m n x) 93 n (fun k hk => (H.ptN hk).2)
  show sN (cZ σ a d.toInt) (qN σ m n x) n ≤ 7440
  omega
/-- the limit as a number -/
theorem Wf.lim (H : Wf σ v g t m n x s b w) : ∃ l : Nat, 1 ≤ l ∧ l ≤ 200 ∧ σ 46 2 = nI l := by
  obtain ⟨h1, h2⟩ := H.dru.2.2
  obtain ⟨l, hl, e⟩ := rg_of (x := σ 46 2) (n := 201) ⟨by omega, by omega⟩ (by omega)
  rw [e, nI_toInt (by omega)] at h1
  exact ⟨l, by omega, by omega, e⟩
theorem Wf.smlt (H : Wf σ v g t m n x s b w) (a : Int32) {d : Int32} (hd : dy d) {l : Nat} (hl : l ≤ 200) (e : σ 46 2 = nI l) : sm σ m n x a d < σ 46 2 ↔ ¬ l ≤ SN σ m n x a d.toInt := by
  obtain ⟨h1, h2⟩ := H.smN a hd
  rw [h1, e, nI_ltI (by omega) (by omega)]
  omega
end
