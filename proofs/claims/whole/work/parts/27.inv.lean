/-! the invariant between the class and the model -/
def RelS (σ : St) : Prop := σ 12 0 = σ 1 3 ∧ σ 12 1 = σ 2 2 ∧ σ 12 2 = σ 2 4 ∧ σ 12 3 = σ 2 8 ∧ σ 12 4 = σ 3 14 ∧ σ 12 5 = σ 4 7 ∧ σ 12 6 = σ 9 3 ∧ σ 12 7 = σ 9 4 ∧ σ 12 8 = σ 3 15 ∧ σ 12 9 = σ 4 1 ∧ σ 12 10 = σ 0 12 ∧ σ 12 11 = σ 46 0 ∧ σ 12 12 = σ 46 1 ∧ σ 12 13 = σ 46 2
def RelA (σ : St) : Prop := σ 50 = σ 15 ∧ σ 51 = σ 16 ∧ σ 52 = σ 17 ∧ σ 53 = σ 18 ∧ σ 54 = σ 19 ∧ σ 55 = σ 20 ∧ σ 56 = σ 21 ∧ σ 57 = σ 22 ∧ σ 58 = σ 23
def RelT (σ : St) : Prop := σ 59 = σ 24 ∧ σ 60 = σ 25 ∧ σ 61 = σ 26 ∧ σ 62 = σ 27 ∧ σ 63 = σ 28 ∧ σ 64 = σ 29 ∧ σ 65 = σ 30 ∧ σ 66 = σ 31 ∧ σ 67 = σ 32 ∧ σ 69 = σ 36 ∧ σ 70 = σ 33 ∧ σ 71 = σ 34 ∧ σ 72 = σ 37
def RelX (σ : St) : Prop := σ 73 = σ 39 ∧ σ 74 = σ 40 ∧ σ 75 = σ 41 ∧ σ 76 = σ 42 ∧ σ 77 = σ 45 ∧ σ 78 = σ 38 ∧ σ 79 = σ 13 ∧ σ 80 = σ 14
def Cn (σ : St) (v g t m n x s b w : Nat) : Prop := (σ 1 3 = nI v ∧ v ≤ 24) ∧ (σ 2 2 = nI g ∧ g ≤ 6) ∧ (σ 2 4 = nI t ∧ t ≤ 8) ∧ (σ 2 8 = nI m ∧ m ≤ 30) ∧ (σ 3 14 = nI n ∧ n ≤ 80) ∧ (σ 4 7 = nI x ∧ x ≤ 6) ∧ (σ 9 3 = nI s ∧ s ≤ 6) ∧ (σ 4 1 = nI b ∧ b ≤ 60) ∧ (σ 0 12 = nI w ∧ w ≤ 8)
def DV (kind make built : Nat → Int32) (v : Nat) : Prop := ∀ i, i < v → rg (kind i) 4 ∧ rg (make i) 4 ∧ rg (built i) 10000
def DG (home mover target since : Nat → Int32) (g t m : Nat) : Prop := (∀ i, i < t → rg (home i) g) ∧ (∀ i, i < m → rg (mover i) t ∧ rg (target i) g ∧ rg (since i) 10000) ∧ ∀ i j, i < j → j < m → mover i = mover j → (since i).toInt ≤ (since j).toInt
def DT (σ : St) (v t n s : Nat) : Prop := ∀ i, i < n → (rg (σ 24 i) v ∧ rg (σ 25 i) t ∧ rg (σ 26 i) 10000 ∧ rg (σ 27 i) 1440 ∧ rg (σ 28 i) 241 ∧ rg (σ 29 i) 1000000) ∧ (rg (σ 30 i) 1000 ∧ rg (σ 31 i) 1000 ∧ rg (σ 32 i) 256 ∧ rg (σ 33 i) 2) ∧ rg (σ 35 i) (s + 1) ∧ σ 68 i = σ 35 i - 1
def DZ (app vis cha wro : Nat → Int32) (n : Nat) : Prop := ∀ i, rg (app i) 2 ∧ rg (cha i) 101 ∧ rg (wro i) 2 ∧ (n ≤ i → app i = 0 ∧ vis i = 0 ∧ cha i = 0)
def DS (known : Nat → Int32) (s : Nat) : Prop := ∀ i, i < s → rg (known i) 256
def DR (r : Nat → Int32) : Prop := (1 ≤ (r 0).toInt ∧ (r 0).toInt ≤ 3650) ∧ (1 ≤ (r 1).toInt ∧ (r 1).toInt ≤ 1000) ∧ (1 ≤ (r 2).toInt ∧ (r 2).toInt ≤ 200)
/-- how many places below n are not 0 -/
def dr (f : Nat → Int32) : Nat → Nat
  | 0 => 0
  | n + 1 => dr f n + (if f n = 0 then 0 else 1)
def Dat (σ : St) (v g t m n s : Nat) : Prop := DV (σ 15) (σ 16) (σ 17) v ∧ DG (σ 20) (σ 21) (σ 22) (σ 23) g t m ∧ DT σ v t n s ∧ DZ (σ 34) (σ 35) (σ 36) (σ 37) n ∧ (∀ i, rg (σ 42 i) 256) ∧ DS (σ 45) s ∧ DR (σ 46) ∧ (∀ j, 64 * s ≤ j → σ 49 j = 0) ∧ σ 3 15 = nI (dr (σ 36) n)
def Inv (σ : St) : Prop := RelS σ ∧ RelA σ ∧ RelT σ ∧ RelX σ ∧ ∃ v g t m n x s b w, Cn σ v g t m n x s b w ∧ Dat σ v g t m n s
/-- cells that are worked out anew at each call -/
def scr (c : Nat) : Bool := match c with
  | 7 => true
  | 11 => true
  | 43 => true
  | 44 => true
  | 47 => true
  | 48 => true
  | 81 => true
  | 82 => true
  | 83 => true
  | 84 => true
  | _ => false
def msk (σ : St) : St := fun c => match scr c with
  | true => fun _ => 0
  | false => σ c
theorem inv_msk {σ : St} : Inv (msk σ) ↔ Inv σ := Iff.rfl
/-- nothing but scratch cells has changed -/
def Fr (σ τ : St) : Prop := ∀ c, scr c = false → τ c = σ c
theorem Fr.rf {σ : St} : Fr σ σ := fun _ _ => rfl
theorem Fr.tr {σ τ υ : St} (h : Fr σ τ) (h2 : Fr τ υ) : Fr σ υ := fun c hc => (h2 c hc).trans (h c hc)
theorem Fr.up {σ τ : St} (h : Fr σ τ) {c : Nat} (hc : scr c = true) (i : Nat) (x : Int32) : Fr σ (up τ c i x) := fun d hd => by
  rw [up_ne τ i x (fun e => by rw [e, hc] at hd; cases hd)]
  exact h d hd
theorem msk_fr {σ τ : St} (h : Fr σ τ) : msk τ = msk σ := by
  funext c
  unfold msk
  cases hc : scr c with
  | true => rfl
  | false => exact h c hc
theorem inv_fr {σ τ : St} (hI : Inv σ) (h : Fr σ τ) : Inv τ := by
  have h1 := inv_msk.mpr hI
  rw [← msk_fr h] at h1
  exact inv_msk.mp h1
theorem inv_0 : Inv σ0 := by
  refine ⟨?_, ?_, ?_, ?_, 0, 0, 0, 0, 0, 0, 0, 0, 0, ?_, ?_⟩
  · refine ⟨rfl, rfl, rfl, rfl, rfl, rfl, rfl, rfl, rfl, rfl, rfl, rfl, rfl, rfl⟩
  · refine ⟨rfl, rfl, rfl, rfl, rfl, rfl, rfl, rfl, rfl⟩
  · refine ⟨rfl, rfl, rfl, rfl, rfl, rfl, rfl, rfl, rfl, rfl, rfl, rfl, rfl⟩
  · refine ⟨rfl, rfl, rfl, rfl, rfl, rfl, rfl, rfl⟩
  · refine ⟨⟨rfl, by omega⟩, ⟨rfl, by omega⟩, ⟨rfl, by omega⟩, ⟨rfl, by omega⟩, ⟨rfl, by omega⟩, ⟨rfl, by omega⟩, ⟨rfl, by omega⟩, ⟨rfl, by omega⟩, ⟨rfl, by omega⟩⟩
  · refine ⟨fun i h => absurd h (by omega), ⟨fun i h => absurd h (by omega), fun i h => absurd h (by omega), fun i j _ h => absurd h (by omega)⟩, fun i h => absurd h (by omega), fun i => ⟨(by decide : rg (0 : Int32) 2), (by decide : rg (0 : Int32) 101), (by decide : rg (0 : Int32) 2), fun _ => ⟨rfl, rfl, rfl⟩⟩, fun i => (by decide : rg (0 : Int32) 256), fun i h => absurd h (by omega), by unfold DR; decide, fun j _ => rfl, rfl⟩
/-- a finding on both sides -/
theorem inv_find {σ : St} (h : Inv σ) (k : Nat) : Inv (fM k (fT k σ)) := by
  obtain ⟨hS, hA, hT, hX, v, g, t, m, n, x, s, b, w, hC, hD⟩ := h
  refine ⟨hS, hA, hT, ?_, v, g, t, m, n, x, s, b, w, hC, hD⟩
  obtain ⟨x1, x2, x3, x4, x5, x6, x7, x8⟩ := hX
  refine ⟨x1, x2, x3, x4, x5, x6, x7, ?_⟩
  show upd (σ 80) k (σ 80 k + 1) = upd (σ 14) k (σ 14 k + 1)
  rw [x8]
theorem p2_find {σ : St} (h : Inv σ) {k : Nat} {tT : MR} {tM : St → MR} (hT : tT = rt (-1000000 - nI k) (fT k σ)) (hM : tM (fT k σ) = rt (-1000000 - nI k) (fM k (fT k σ))) : P2 tT tM Inv := P2_of hT hM (inv_find h k)
