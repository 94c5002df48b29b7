/-! signs of a test; pairs: signs, alike -/
theorem it_and {α : Type} (p q : Prop) [Decidable p] [Decidable q] [Decidable (p ∧ q)] (A B : α) : (if p ∧ q then A else B) = if p then (if q then A else B) else B := by
  by_cases hp : p
  · by_cases hq : q
    · rw [if_pos ⟨hp, hq⟩, if_pos hp, if_pos hq]
    · rw [if_neg (fun z => hq z.2), if_pos hp, if_neg hq]
  · rw [if_neg (fun z => hp z.1), if_neg hp]
theorem it_not {α : Type} (p : Prop) [Decidable p] [Decidable (¬ p)] (A B : α) : (if ¬ p then A else B) = if p then B else A := by
  by_cases hp : p
  · rw [if_neg (fun z => z hp), if_pos hp]
  · rw [if_pos hp, if_neg hp]
theorem rt_bI (p : Prop) [Decidable p] (σ : St) : rt (bI p) σ = if p then rt 1 σ else rt 0 σ := by
  unfold bI
  exact rt_ite p 1 0 σ
theorem fol_inv {α : Type} {f : Nat → α → α} {P : α → Prop} : ∀ (j i : Nat) (a : α), P a → (∀ k a, i ≤ k → k < i + j → P a → P (f k a)) → P (fol f i j a)
  | 0, _, _, h, _ => h
  | j + 1, i, a, h, hs => fol_inv j (i + 1) (f i a) (hs i a (Nat.le_refl _) (by omega) h) (fun k a h1 h2 => hs k a (by omega) (by omega))
/-- how many places below m have p -/
def cnt (p : Nat → Prop) [DecidablePred p] (m : Nat) : Int32 := fol (fun k c => if p k then c + 1 else c) 0 m 0
theorem cnt_nat (p : Nat → Prop) [DecidablePred p] : ∀ m, ∃ c, c ≤ m ∧ cnt p m = nI c
  | 0 => ⟨0, Nat.le_refl _, rfl⟩
  | m + 1 => by
    obtain ⟨c, hc, e⟩ := cnt_nat p m
    have h : cnt p (m + 1) = if p m then cnt p m + 1 else cnt p m := by
      unfold cnt
      rw [fol_last, Nat.zero_add]
    rw [h, e, nI_1]
    by_cases hp : p m
    · rw [if_pos hp]
      exact ⟨c + 1, by omega, rfl⟩
    · rw [if_neg hp]
      exact ⟨c, by omega, rfl⟩
theorem cnt_loop (Lp : Nat → Nat → Int32 → MR) (p : Nat → Prop) [DecidablePred p] (σ : St) (m : Nat) (hm : m < 5000) (hx : ∀ n a, Lp (n + 1) m a = rt a σ) (hs : ∀ n i a, i < m → Lp (n + 1) i a = if p i then Lp n (i + 1) (a + 1) else Lp n (i + 1) a) : Lp FU 0 0 = rt (cnt p m) σ := by
  refine cloop Lp (fun k c => if p k then c + 1 else c) (fun a => rt a σ) m hx ?_ m 0 FU 0 (by omega) (FU_big hm)
  intro n i a hi
  rw [hs n i a hi]
  by_cases h : p i
  · simp only [if_pos h]
  · simp only [if_neg h]
/-- is there a place among i, .., i + j - 1 -/
def sr (p : Nat → Bool) : Nat → Nat → Bool
  | _, 0 => false
  | i, j + 1 => p i || sr p (i + 1) j
theorem sr_iff (p : Nat → Bool) : ∀ (j i : Nat), sr p i j = true ↔ ∃ k, i ≤ k ∧ k < i + j ∧ p k = true
  | 0, i => by
    constructor
    · intro h; cases h
    · rintro ⟨k, h1, h2, _⟩; omega
  | j + 1, i => by
    show (p i || sr p (i + 1) j) = true ↔ _
    rw [Bool.or_eq_true, sr_iff p j (i + 1)]
    constructor
    · rintro (h | ⟨k, h1, h2, h3⟩)
      · exact ⟨i, Nat.le_refl _, by omega, h⟩
      · exact ⟨k, by omega, by omega, h3⟩
    · rintro ⟨k, h1, h2, h3⟩
      by_cases e : k = i
      · subst e; exact Or.inl h3
      · exact Or.inr ⟨k, by omega, by omega, h3⟩
theorem sloop (Lp : Nat → Nat → MR) (p : Nat → Prop) [DecidablePred p] (A B : MR) (m : Nat) (hx : ∀ n, Lp (n + 1) m = B) (hs : ∀ n i, i < m → Lp (n + 1) i = if p i then A else Lp n (i + 1)) : ∀ (j i n : Nat), i + j = m → j < n → Lp n i = if sr (fun k => decide (p k)) i j = true then A else B
  | 0, i, n + 1, h, _ => by
    have h : i = m := h
    subst h
    rw [hx, if_neg (by intro z; cases z)]
  | j + 1, i, n + 1, h, hn => by
    rw [hs n i (by omega)]
    by_cases hp : p i
    · rw [if_pos hp, if_pos]
      show (decide (p i) || _) = true
      rw [decide_eq_true hp]
      rfl
    · rw [if_neg hp, sloop Lp p A B m hx hs j (i + 1) n (by omega) (by omega)]
      have e : sr (fun k => decide (p k)) i (j + 1) = sr (fun k => decide (p k)) (i + 1) j := by
        show (decide (p i) || _) = _
        rw [decide_eq_false hp]
        rfl
      rw [e]
  | 0, _, 0, _, h => absurd h (by omega)
  | _ + 1, _, 0, _, h => absurd h (by omega)
/-- nearness: class and model -/
theorem abs_lt {p q K : Nat} (hp : p < 2 ^ 30) (hq : q < 2 ^ 30) {k : Int32} (hk : k.toInt = (K : Int)) : k < absI (nI p - nI q) ↔ ((K : Int) < (p : Int) - q ∨ (K : Int) < (q : Int) - p) := by
  have h1 := pk_sub_toInt hp hq
  have h2 := pk_sub_toInt hq hp
  rw [Int32.lt_iff_toInt_lt, hk]
  unfold absI
  by_cases h : 0 ≤ nI p - nI q
  · have h3 := Int32.le_iff_toInt_le.mp h
    rw [if_pos h, h1]
    have : (0 : Int32).toInt = 0 := rfl
    omega
  · have h3 := Int32.not_le.mp h
    have h4 := Int32.lt_iff_toInt_lt.mp h3
    have : (0 : Int32).toInt = 0 := rfl
    rw [if_neg h, Int32.zero_sub, Int32.neg_sub, h2]
    omega
theorem e164 {a b k : Int32} {N K : Nat} (ha : rg a N) (hb : rg b N) (hN : N ≤ 2 ^ 30) (hk : k.toInt = (K : Int)) (hk2 : (-k).toInt = -(K : Int)) (σ : St) : sp_164 b a k σ = rt (bI (¬ k < absI (a - b))) σ := by
  obtain ⟨p, hp, rfl⟩ := rg_of ha (by omega)
  obtain ⟨q, hq, rfl⟩ := rg_of hb (by omega)
  have h0 := abs_lt (p := p) (q := q) (by omega) (by omega) hk
  have h2 := pk_sub_toInt (a := q) (b := p) (by omega) (by omega)
  have h3 : nI q - nI p < -k ↔ (q : Int) - p < -(K : Int) := by rw [Int32.lt_iff_toInt_lt, h2, hk2]
  have h4 : k < nI q - nI p ↔ (K : Int) < (q : Int) - p := by rw [Int32.lt_iff_toInt_lt, h2, hk]
  unfold sp_164
  by_cases c1 : nI q - nI p < -k
  · rw [e123_lo c1, bn_rt, mb_t b00, bI_f]
    intro z
    have := h3.mp c1
    exact z (h0.mpr (by omega))
  · by_cases c2 : k < nI q - nI p
    · rw [e123_hi c2, bn_rt, mb_t b00, bI_f]
      intro z
      have := h4.mp c2
      exact z (h0.mpr (by omega))
    · rw [e123_in c1 c2, bn_rt, mb_t b11, bI_t]
      intro z
      have z := h0.mp z
      have c1 := Int.not_lt.mp (fun y => c1 (h3.mpr y))
      have c2 := Int.not_lt.mp (fun y => c2 (h4.mpr y))
      omega
abbrev al2 (σ : St) (i j : Nat) : Prop := ¬ σ 24 j = σ 24 i ∧ ¬ 30 < absI (σ 26 j - σ 26 i) ∧ ¬ 1 < absI (σ 30 j - σ 30 i) ∧ ¬ 1 < absI (σ 31 j - σ 31 i)
abbrev alP (σ : St) (i j : Nat) : Prop := σ 25 j = σ 25 i ∧ al2 σ i j
def fair (k : Int32) : Int32 := if k = 2 then 30 else if k = 3 then 10 else 20
abbrev qkP (σ : St) (i : Nat) : Prop := ¬ fair (kd σ i) ≤ σ 28 i
abbrev ovP (σ : St) (i k : Nat) : Prop := ¬ nI k = nI i ∧ σ 25 k = σ 25 i ∧ σ 26 k = σ 26 i ∧ ¬ σ 27 i + σ 28 i ≤ σ 27 k ∧ ¬ σ 27 k + σ 28 k ≤ σ 27 i
def ov (σ : St) (n i : Nat) : Bool := sr (fun k => decide (ovP σ i k)) 0 n
/-- the garage of a test -/
def gr (σ : St) (m i : Nat) : Int32 := plc (σ 20) (σ 21) (σ 22) (σ 23) m (σ 25 i) (σ 26 i)
abbrev shP (σ : St) (m i : Nat) : Prop := σ 27 i < σ 18 (gr σ m i).toNatClampNeg ∨ ¬ σ 27 i + σ 28 i ≤ σ 19 (gr σ m i).toNatClampNeg
section
variable {σ : St} {v g t m n x s b w : Nat}
theorem Wf.i80' (H : Wf σ v g t m n x s b w) {i : Nat} (hi : i < n) : vp_in (nI i) 80 = True := eq_true (H.i80 hi)
theorem Wf.e52 (H : Wf σ v g t m n x s b w) {i j : Nat} (hi : i < n) (hj : j < n) : sp_52 (nI j) (nI i) σ = rt (bI (al2 σ i j)) σ := by
  unfold sp_52
  simp only [mb_t (H.i80 hi), mb_t (H.i80 hj), H.icl hi, H.icl hj, mb_T, true_or, or_true, rt_bI, it_and, it_not]
theorem Wf.e51 (H : Wf σ v g t m n x s b w) {i : Nat} (hi : i < n) : sp_51 (nI i) σ = rt (cnt (alP σ i) n) σ := by
  unfold sp_51
  have hn := H.n2
  refine cnt_loop (fun f j c => lp_51_4 f (nI i) c (nI j) σ) (alP σ i) σ n (by omega) ?_ ?_
  · intro f c
    show lp_51_4 (f + 1) (nI i) c (nI n) σ = _
    rw [lp_51_4, H.n1, if_pos (nI_le (Nat.le_refl n) (by omega))]
  · intro f j c hj
    show lp_51_4 (f + 1) (nI i) c (nI j) σ = if alP σ i j then lp_51_4 f (nI i) (c + 1) (nI (j + 1)) σ else lp_51_4 f (nI i) c (nI (j + 1)) σ
    rw [lp_51_4, H.n1, if_neg (nI_ge hj (by omega))]
    simp only [mb_t (H.i80 hi), mb_t (H.i80 hj), H.icl hi, H.icl hj, H.e52 hi hj, bn_rt, bI_i0, nI_1]
    by_cases h1 : σ 25 j = σ 25 i
    · by_cases h2 : al2 σ i j
      · rw [if_pos h1, if_pos h2, if_pos ⟨h1, h2⟩]
      · rw [if_pos h1, if_neg h2, if_neg (fun z => h2 z.2)]
    · rw [if_neg h1, if_neg (fun z => h1 z.1)]
theorem Wf.e163 (H : Wf σ v g t m n x s b w) {i : Nat} (hi : i < n) : sp_163 (nI i) σ = rt (cnt (alP σ i) n) σ := by
  unfold sp_163
  have hn := H.n2
  refine cnt_loop (fun f j c => lp_163_4 f (nI i) c (nI j) σ) (alP σ i) σ n (by omega) ?_ ?_
  · intro f c
    show lp_163_4 (f + 1) (nI i) c (nI n) σ = _
    rw [lp_163_4, H.mn, if_pos (nI_le (Nat.le_refl n) (by omega))]
  · intro f j c hj
    show lp_163_4 (f + 1) (nI i) c (nI j) σ = if alP σ i j then lp_163_4 f (nI i) (c + 1) (nI (j + 1)) σ else lp_163_4 f (nI i) c (nI (j + 1)) σ
    rw [lp_163_4, H.mn, if_neg (nI_ge hj (by omega))]
    have k1 := e164 (k := 30) (K := 30) (H.i26 hj) (H.i26 hi) (by omega) rfl rfl σ
    have k2 := e164 (k := 1) (K := 1) (H.i30 hj) (H.i30 hi) (by omega) rfl rfl σ
    have k3 := e164 (k := 1) (K := 1) (H.i31 hj) (H.i31 hi) (by omega) rfl rfl σ
    simp only [mb_t (H.i80 hi), mb_t (H.i80 hj), H.icl hi, H.icl hj, H.a59, H.a60, H.a61, H.a65, H.a66, k1, k2, k3, bn_rt, bI_i0, nI_1, Int32.add_zero, it_and, it_not]
theorem Wf.e54 (H : Wf σ v g t m n x s b w) {i : Nat} (hi : i < n) : sp_54 (nI i) σ = rt (bI (qkP σ i)) σ := by
  unfold sp_54
  have hk : (sV 1).getD (kd σ i).toNatClampNeg 0 = fair (kd σ i) := by
    obtain ⟨j, hj, e⟩ := rg_of (H.ik hi) (by omega)
    show (sV 1).getD (σ 15 (σ 24 i).toNatClampNeg).toNatClampNeg 0 = fair (σ 15 (σ 24 i).toNatClampNeg)
    rw [e, nI_cl (by omega)]
    rcases (show j = 0 ∨ j = 1 ∨ j = 2 ∨ j = 3 by omega) with rfl | rfl | rfl | rfl <;> rfl
  simp only [mb_t (H.i80 hi), H.icl hi, mb_t (H.iv hi).2, mb_t (rg_vp.mpr (H.ik hi)), mb_T, true_or, or_true, hk, rt_bI, it_not]
theorem Wf.e165 (H : Wf σ v g t m n x s b w) {i : Nat} (hi : i < n) : sp_165 (nI i) σ = rt (bI (qkP σ i)) σ := by
  unfold sp_165
  simp only [mb_t (H.i80 hi), H.icl hi, H.a59, H.a50, H.a63, mb_t (H.iv hi).2, mb_T, true_or, or_true, rt_bI, it_not]
  unfold fair
  by_cases h2 : kd σ i = 2
  · simp only [if_pos h2]
  · by_cases h3 : kd σ i = 3
    · simp only [if_neg h2, if_pos h3]
    · simp only [if_neg h2, if_neg h3]
theorem Wf.e56 (H : Wf σ v g t m n x s b w) {i j : Nat} (hi : i < n) (hj : j < n) : sp_56 (nI j) (nI i) σ = rt (bI (σ 26 j = σ 26 i ∧ ¬ σ 27 i + σ 28 i ≤ σ 27 j ∧ ¬ σ 27 j + σ 28 j ≤ σ 27 i)) σ := by
  unfold sp_56
  simp only [mb_t (H.i80 hi), mb_t (H.i80 hj), H.icl hi, H.icl hj, mb_T, true_or, or_true, rt_bI, it_and, it_not]
theorem Wf.e55 (H : Wf σ v g t m n x s b w) {i : Nat} (hi : i < n) : sp_55 (nI i) σ = rt (bI (ov σ n i = true)) σ := by
  unfold sp_55 ov
  have hn := H.n2
  rw [rt_bI]
  refine sloop (fun f j => lp_55_2 f (nI i) (nI j) σ) (ovP σ i) (rt 1 σ) (rt 0 σ) n ?_ ?_ n 0 FU (by omega) (FU_big (by omega))
  · intro f
    show lp_55_2 (f + 1) (nI i) (nI n) σ = _
    rw [lp_55_2, H.n1, if_pos (nI_le (Nat.le_refl n) (by omega)), mb_t b00]
  · intro f j hj
    show lp_55_2 (f + 1) (nI i) (nI j) σ = if ovP σ i j then rt 1 σ else lp_55_2 f (nI i) (nI (j + 1)) σ
    rw [lp_55_2, H.n1, if_neg (nI_ge hj (by omega))]
    simp only [mb_t (H.i80 hi), mb_t (H.i80 hj), H.icl hi, H.icl hj, H.e56 hi hj, bn_rt, bI_i0, nI_1, mb_T, or_true, it_and, it_not]
theorem Wf.e166 (H : Wf σ v g t m n x s b w) {i : Nat} (hi : i < n) : sp_166 (nI i) σ = rt (bI (ov σ n i = true)) σ := by
  unfold sp_166 ov
  have hn := H.n2
  rw [rt_bI]
  refine sloop (fun f j => lp_166_2 f (nI i) (nI j) σ) (ovP σ i) (rt 1 σ) (rt 0 σ) n ?_ ?_ n 0 FU (by omega) (FU_big (by omega))
  · intro f
    show lp_166_2 (f + 1) (nI i) (nI n) σ = _
    rw [lp_166_2, H.mn, if_pos (nI_le (Nat.le_refl n) (by omega)), mb_t b00]
  · intro f j hj
    show lp_166_2 (f + 1) (nI i) (nI j) σ = if ovP σ i j then rt 1 σ else lp_166_2 f (nI i) (nI (j + 1)) σ
    rw [lp_166_2, H.mn, if_neg (nI_ge hj (by omega))]
    simp only [mb_t (H.i80 hi), mb_t (H.i80 hj), H.icl hi, H.icl hj, H.a60, H.a61, H.a62, H.a63, nI_1, mb_T, or_true, it_and, it_not]
theorem Wf.rplc (H : Wf σ v g t m n x s b w) {t' : Int32} (ht : rg t' t) (d : Int32) : rg (plc (σ 20) (σ 21) (σ 22) (σ 23) m t' d) g := by
  unfold plc
  have h2 := H.t2
  refine fol_inv (P := fun z => rg z g) m 0 _ ?_ ?_
  · obtain ⟨j, hj, rfl⟩ := rg_of ht (by omega)
    rw [nI_cl (by omega)]
    exact H.dg.1 j hj
  · intro k a _ hk ha
    unfold plS
    split
    · split
      · exact ha
      · exact (H.dg.2.1 k (by omega)).2.1
    · exact ha
theorem Wf.rgr (H : Wf σ v g t m n x s b w) {i : Nat} (hi : i < n) : rg (gr σ m i) g := H.rplc (H.i25 hi) _
theorem Wf.f24 (H : Wf σ v g t m n x s b w) {i : Nat} (hi : i < n) : sp_24 (nI i) σ = rt (gr σ m i) σ := e24 H.m1 H.m2 H.t2 H.n2 (fun _ h => H.i25 h) hi
theorem Wf.f141 (H : Wf σ v g t m n x s b w) {i : Nat} (hi : i < n) : sp_141 (nI i) σ = rt (gr σ m i) σ := by
  have h := e141 (σ := σ) H.mm H.m2 H.t2 H.n2 (fun i h => by rw [H.a60]; exact H.i25 h) hi
  rw [h, H.a55, H.a56, H.a57, H.a58, H.a60, H.a61]
  rfl
theorem Wf.e57 (H : Wf σ v g t m n x s b w) {i : Nat} (hi : i < n) : sp_57 (nI i) σ = rt (bI (shP σ m i)) σ := by
  unfold sp_57
  simp only [H.f24 hi, bn_rt, mb_t (H.i80 hi), mb_t (vp_le (H.rgr hi) H.g2), H.icl hi, mb_T, true_or, or_true, rt_bI]
  by_cases h1 : σ 27 i < σ 18 (gr σ m i).toNatClampNeg
  · rw [if_pos h1, if_pos (Or.inl h1)]
  · rw [if_neg h1]
    by_cases h2 : σ 27 i + σ 28 i ≤ σ 19 (gr σ m i).toNatClampNeg
    · rw [if_pos h2, if_neg (fun z => z.elim h1 (fun z => z h2))]
    · rw [if_neg h2, if_pos (Or.inr h2)]
theorem Wf.e167 (H : Wf σ v g t m n x s b w) {i : Nat} (hi : i < n) : sp_167 (nI i) σ = rt (bI (shP σ m i)) σ := by
  unfold sp_167
  simp only [H.f141 hi, bn_rt, mb_t (H.i80 hi), mb_t (vp_le (H.rgr hi) H.g2), H.icl hi, mb_T, true_or, or_true, rt_bI, H.a62, H.a63, H.a53, H.a54]
  by_cases h1 : σ 27 i < σ 18 (gr σ m i).toNatClampNeg
  · rw [if_pos h1, if_pos (Or.inl h1)]
  · rw [if_neg h1]
    by_cases h2 : σ 27 i + σ 28 i ≤ σ 19 (gr σ m i).toNatClampNeg
    · rw [if_pos h2, if_neg (fun z => z.elim h1 (fun z => z h2))]
    · rw [if_neg h2, if_pos (Or.inr h2)]
end
/-- the five signs as a number -/
def sgv (c1 c2 c3 c4 c5 : Prop) [Decidable c1] [Decidable c2] [Decidable c3] [Decidable c4] [Decidable c5] : Int32 := (if c1 then 0 else 1) + (if c2 then 2 else 0) + (if c3 then 4 else 0) + (if c4 then 8 else 0) + (if c5 then 16 else 0)
def sg (σ : St) (m n x i : Nat) : Int32 := sgv (cnt (alP σ i) n ≤ 2) (qkP σ i) (ov σ n i = true) (shP σ m i) (ul σ x i = 1)
theorem sgv_rg (c1 c2 c3 c4 c5 : Prop) [Decidable c1] [Decidable c2] [Decidable c3] [Decidable c4] [Decidable c5] : rg (sgv c1 c2 c3 c4 c5) 32 := by
  unfold sgv
  by_cases h1 : c1 <;> by_cases h2 : c2 <;> by_cases h3 : c3 <;> by_cases h4 : c4 <;> by_cases h5 : c5 <;> simp only [h1, h2, h3, h4, h5, if_true, if_false] <;> decide
section
variable {σ : St} {v g t m n x s b w : Nat}
theorem Wf.e50 (H : Wf σ v g t m n x s b w) {i : Nat} (hi : i < n) : sp_50 (nI i) σ = rt (sg σ m n x i) σ := by
  unfold sp_50 sg sgv
  rw [H.e51 hi, bn_rt]
  by_cases h1 : cnt (alP σ i) n ≤ 2 <;> (first | simp only [if_pos h1] | simp only [if_neg h1]) <;> simp only [H.e54 hi, bn_rt, bI_i0] <;> by_cases h2 : qkP σ i <;> (first | simp only [if_pos h2] | simp only [if_neg h2]) <;> simp only [H.e55 hi, bn_rt, bI_i0] <;> by_cases h3 : ov σ n i = true <;> (first | simp only [if_pos h3] | simp only [if_neg h3]) <;> simp only [H.e57 hi, bn_rt, bI_i0] <;> by_cases h4 : shP σ m i <;> (first | simp only [if_pos h4] | simp only [if_neg h4]) <;> simp only [H.e58 hi, bn_rt, bI_i0] <;> by_cases h5 : ul σ x i = 1 <;> (first | simp only [if_pos h5] | simp only [if_neg h5]) <;> rfl
theorem Wf.e162 (H : Wf σ v g t m n x s b w) {i : Nat} (hi : i < n) : sp_162 (nI i) σ = rt (sg σ m n x i) σ := by
  unfold sp_162 sg sgv
  rw [H.e163 hi, bn_rt]
  by_cases h1 : cnt (alP σ i) n ≤ 2 <;> (first | simp only [if_pos h1] | simp only [if_neg h1]) <;> simp only [H.e165 hi, bn_rt, bI_i0] <;> by_cases h2 : qkP σ i <;> (first | simp only [if_pos h2] | simp only [if_neg h2]) <;> simp only [H.e166 hi, bn_rt, bI_i0] <;> by_cases h3 : ov σ n i = true <;> (first | simp only [if_pos h3] | simp only [if_neg h3]) <;> simp only [H.e167 hi, bn_rt, bI_i0] <;> by_cases h4 : shP σ m i <;> (first | simp only [if_pos h4] | simp only [if_neg h4]) <;> simp only [H.e154 hi, bn_rt, bI_i0] <;> by_cases h5 : ul σ x i = 1 <;> (first | simp only [if_pos h5] | simp only [if_neg h5]) <;> rfl
end
theorem pr_15 : Pr_15 Inv := by
  intro a σ hI
  obtain ⟨v, g, t, m, n, x, s, b, w, H⟩ := inv_wf hI
  have H1 := H.ft 1
  by_cases ha : rg a n
  · obtain ⟨i, hi, rfl⟩ := rg_of ha (by have := H.n2; omega)
    refine P2_of (r := sg σ m n x i) (σ1 := σ) (σ2 := σ) ?_ ?_ hI
    · unfold sp_73
      simp only [H.q1n, bn_rt, if_bI ha, H.e50 hi]
    · show sp_168 (nI i) σ = _
      unfold sp_168
      simp only [H.qn, bn_rt, if_bI ha, H.e162 hi]
  · refine p2_b1 hI ?_ ?_
    · unfold sp_73
      simp only [H.q1n, bn_rt, bI_i0, if_neg ha, e2_1]
    · show sp_168 a (fT 1 σ) = _
      unfold sp_168
      simp only [H1.qn, bn_rt, bI_i0, if_neg ha, e125_1]
theorem pr_16 : Pr_16 Inv := by
  intro a σ hI
  obtain ⟨v, g, t, m, n, x, s, b, w, H⟩ := inv_wf hI
  have H1 := H.ft 1
  by_cases ha : rg a n
  · obtain ⟨i, hi, rfl⟩ := rg_of ha (by have := H.n2; omega)
    refine P2_of (r := cnt (alP σ i) n) (σ1 := σ) (σ2 := σ) ?_ ?_ hI
    · unfold sp_74
      simp only [H.q1n, bn_rt, if_bI ha, H.e51 hi]
    · show sp_169 (nI i) σ = _
      unfold sp_169
      simp only [H.qn, bn_rt, if_bI ha, H.e163 hi]
  · refine p2_b1 hI ?_ ?_
    · unfold sp_74
      simp only [H.q1n, bn_rt, bI_i0, if_neg ha, e2_1]
    · show sp_169 a (fT 1 σ) = _
      unfold sp_169
      simp only [H1.qn, bn_rt, bI_i0, if_neg ha, e125_1]
