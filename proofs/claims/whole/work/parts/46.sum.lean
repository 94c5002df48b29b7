/-! sums of points; pairs: sum -/
theorem iloop {α : Type} (Lp : Nat → Nat → α → MR) (I : Nat → α → Prop) (m : Nat) (hs : ∀ n i a, i < m → I i a → ∃ a', I (i + 1) a' ∧ Lp (n + 1) i a = Lp n (i + 1) a') : ∀ (j i n : Nat) (a : α), i + j = m → j < n → I i a → ∃ k a', I m a' ∧ Lp n i a = Lp (k + 1) m a'
  | 0, i, n + 1, a, h, _, hI => by
    have h : i = m := h
    subst h
    exact ⟨n, a, hI, rfl⟩
  | j + 1, i, n + 1, a, h, hn, hI => by
    obtain ⟨a', h1, h2⟩ := hs n i a (by omega) hI
    obtain ⟨k, b, h3, h4⟩ := iloop Lp I m hs j (i + 1) n a' (by omega) (by omega) h1
    exact ⟨k, b, h3, h2.trans h4⟩
  | 0, _, 0, _, _, h, _ => absurd h (by omega)
  | _ + 1, _, 0, _, _, h, _ => absurd h (by omega)
/-- all cells but one are as they were -/
def Ex1 (c : Nat) (σ τ : St) : Prop := ∀ d, d ≠ c → τ d = σ d
theorem Ex1.fr {c : Nat} {σ τ : St} (h : Ex1 c σ τ) (hc : scr c = true) : Fr σ τ := fun d hd => h d (fun e => by rw [e, hc] at hd; cases hd)
theorem Ex1.up {c : Nat} {σ τ : St} (h : Ex1 c σ τ) (i : Nat) (z : Int32) : Ex1 c σ (up τ c i z) := fun d hd => by
  rw [up_ne τ i z hd]
  exact h d hd
theorem pt_msk (σ : St) (m n x i : Nat) : pt (msk σ) m n x i = pt σ m n x i := rfl
theorem pt_fr {σ τ : St} (h : Fr σ τ) (m n x i : Nat) : pt τ m n x i = pt σ m n x i := by
  rw [← pt_msk τ, ← pt_msk σ, msk_fr h]
theorem i32_sub {a b : Int32} (h1 : -2 ^ 31 ≤ a.toInt - b.toInt) (h2 : a.toInt - b.toInt < 2 ^ 31) : (a - b).toInt = a.toInt - b.toInt := by
  rw [Int32.toInt_sub]
  exact Int.bmod_eq_of_le_mul_two (by omega) (by omega)
theorem i32_add {a b : Int32} (h1 : -2 ^ 31 ≤ a.toInt + b.toInt) (h2 : a.toInt + b.toInt < 2 ^ 31) : (a + b).toInt = a.toInt + b.toInt := by
  rw [Int32.toInt_add]
  exact Int.bmod_eq_of_le_mul_two (by omega) (by omega)
theorem t1I : (1 : Int32).toInt = 1 := rfl
/-- a day within reach -/
abbrev dy (d : Int32) : Prop := -2000 ≤ d.toInt ∧ d.toInt < 10000
abbrev smP (σ : St) (t d : Int32) (k : Nat) : Prop := σ 25 k = t ∧ ¬ d < σ 26 k ∧ ¬ σ 26 k ≤ d - σ 46 0
def sm (σ : St) (m n x : Nat) (t d : Int32) : Int32 := fol (fun k c => if smP σ t d k then c + pt σ m n x k else c) 0 n 0
theorem sm_fr {σ τ : St} (h : Fr σ τ) (m n x : Nat) (t d : Int32) : sm τ m n x t d = sm σ m n x t d := by
  have h1 : ∀ ρ : St, sm (msk ρ) m n x t d = sm ρ m n x t d := fun _ => rfl
  rw [← h1 τ, ← h1 σ, msk_fr h]
section
variable {σ : St} {v g t m n x s b w : Nat}
theorem Wf.e89 (H : Wf σ v g t m n x s b w) (a : Int32) : ∃ τ, sp_89 a σ = rt 0 τ ∧ Ex1 47 σ τ ∧ ∀ i, i < n → τ 47 i = if σ 25 i = a then pt σ m n x i else 0 := by
  have hn := H.n2
  unfold sp_89
  have hlp := iloop (fun f i τ => lp_89_2 f a (nI i) τ) (fun j τ => Ex1 47 σ τ ∧ ∀ i, i < j → τ 47 i = if σ 25 i = a then pt σ m n x i else 0) n ?_ n 0 FU σ (by omega) (FU_big (by omega)) ⟨fun _ _ => rfl, fun i hi => absurd hi (by omega)⟩
  · obtain ⟨k, τ, ⟨h1, h2⟩, e⟩ := hlp
    refine ⟨τ, ?_, h1, h2⟩
    show lp_89_2 FU a (nI 0) σ = _
    rw [e]
    show lp_89_2 (k + 1) a (nI n) τ = _
    have Hτ := H.fr (h1.fr rfl)
    rw [lp_89_2, Hτ.n1, if_pos (nI_le (Nat.le_refl n) (by omega))]
  · intro f j τ hj ⟨h1, h2⟩
    have Hτ := H.fr (h1.fr rfl)
    refine ⟨up τ 47 j (if σ 25 j = a then pt σ m n x j else 0), ⟨h1.up j _, ?_⟩, ?_⟩
    · intro i hi
      show (if 47 = 47 then upd (τ 47) j _ else τ 47) i = _
      rw [if_pos rfl]
      by_cases e : i = j
      · rw [e, pk_us]
      · rw [pk_un e]
        exact h2 i (by omega)
    · show lp_89_2 (f + 1) a (nI j) τ = lp_89_2 f a (nI (j + 1)) _
      rw [lp_89_2, Hτ.n1, if_neg (nI_ge hj (by omega))]
      simp only [mb_t (H.i80 hj), H.icl hj, Hτ.e85 hj, bn_rt, nI_1, h1 25 (by omega), pt_fr (h1.fr rfl)]
      by_cases e : σ 25 j = a
      · simp only [if_pos e]
      · simp only [if_neg e]
theorem Wf.e178 (H : Wf σ v g t m n x s b w) : ∃ τ, sp_178 σ = rt 0 τ ∧ Ex1 81 σ τ ∧ ∀ i, i < n → τ 81 i = pt σ m n x i := by
  have hn := H.n2
  unfold sp_178
  have hlp := iloop (fun f i τ => lp_178_2 f (nI i) τ) (fun j τ => Ex1 81 σ τ ∧ ∀ i, i < j → τ 81 i = pt σ m n x i) n ?_ n 0 FU σ (by omega) (FU_big (by omega)) ⟨fun _ _ => rfl, fun i hi => absurd hi (by omega)⟩
  · obtain ⟨k, τ, ⟨h1, h2⟩, e⟩ := hlp
    refine ⟨τ, ?_, h1, h2⟩
    show lp_178_2 FU (nI 0) σ = _
    rw [e]
    show lp_178_2 (k + 1) (nI n) τ = _
    have Hτ := H.fr (h1.fr rfl)
    rw [lp_178_2, Hτ.mn, if_pos (nI_le (Nat.le_refl n) (by omega))]
  · intro f j τ hj ⟨h1, h2⟩
    have Hτ := H.fr (h1.fr rfl)
    refine ⟨up τ 81 j (pt σ m n x j), ⟨h1.up j _, ?_⟩, ?_⟩
    · intro i hi
      show (if 81 = 81 then upd (τ 81) j _ else τ 81) i = _
      rw [if_pos rfl]
      by_cases e : i = j
      · rw [e, pk_us]
      · rw [pk_un e]
        exact h2 i (by omega)
    · show lp_178_2 (f + 1) (nI j) τ = lp_178_2 f (nI (j + 1)) _
      rw [lp_178_2, Hτ.mn, if_neg (nI_ge hj (by omega))]
      simp only [mb_t (H.i80 hj), H.icl hj, Hτ.e175 hj, bn_rt, nI_1, pt_fr (h1.fr rfl)]
theorem v03 : vp_in (0 : Int32) 3 := v3_0
theorem Wf.e90 (H : Wf σ v g t m n x s b w) {τ : St} {a : Int32} (h1 : Ex1 47 σ τ) (h2 : ∀ i, i < n → τ 47 i = if σ 25 i = a then pt σ m n x i else 0) (d : Int32) : sp_90 d τ = rt (sm σ m n x a d) τ := by
  have hn := H.n2
  have Hτ := H.fr (h1.fr rfl)
  unfold sp_90 sm
  refine cloop (fun f i c => lp_90_4 f d c (nI i) τ) (fun k c => if smP σ a d k then c + pt σ m n x k else c) (fun c => rt c τ) n ?_ ?_ n 0 FU 0 (by omega) (FU_big (by omega))
  · intro f c
    show lp_90_4 (f + 1) d c (nI n) τ = _
    rw [lp_90_4, Hτ.n1, if_pos (nI_le (Nat.le_refl n) (by omega))]
  · intro f i c hi
    show lp_90_4 (f + 1) d c (nI i) τ = lp_90_4 f d (if smP σ a d i then c + pt σ m n x i else c) (nI (i + 1)) τ
    rw [lp_90_4, Hτ.n1, if_neg (nI_ge hi (by omega))]
    have e46 : τ 46 (0 : Int32).toNatClampNeg = σ 46 0 := by
      rw [h1 46 (by omega)]
      rfl
    simp only [mb_t (H.i80 hi), H.icl hi, mb_t v03, nI_1, e46, h1 26 (by omega), h2 i hi]
    by_cases z1 : d < σ 26 i
    · rw [if_pos z1, if_neg (fun z => z.2.1 z1)]
    · rw [if_neg z1]
      by_cases z2 : σ 26 i ≤ d - σ 46 0
      · rw [if_pos z2, if_neg (fun z => z.2.2 z2)]
      · rw [if_neg z2]
        by_cases z3 : σ 25 i = a
        · rw [if_pos z3, if_pos ⟨z3, z1, z2⟩]
        · rw [if_neg z3, if_neg (fun z => z3 z.1), Int32.add_zero]
theorem Wf.e88 (H : Wf σ v g t m n x s b w) (a d : Int32) : ∃ τ, sp_88 a d σ = rt (sm σ m n x a d) τ ∧ Ex1 47 σ τ := by
  obtain ⟨τ, e, h1, h2⟩ := H.e89 a
  refine ⟨τ, ?_, h1⟩
  unfold sp_88
  simp only [e, bn_rt, H.e90 h1 h2 d]
theorem Wf.e179 (H : Wf σ v g t m n x s b w) {τ : St} (h1 : Ex1 81 σ τ) (h2 : ∀ i, i < n → τ 81 i = pt σ m n x i) (a : Int32) {d : Int32} (hd : dy d) : sp_179 a d τ = rt (sm σ m n x a d) τ := by
  have hn := H.n2
  have Hτ := H.fr (h1.fr rfl)
  have hL := H.dru.1
  have e46 : τ 12 11 = σ 46 0 := by
    rw [Hτ.r0, h1 46 (by omega)]
  have hy : (d - σ 46 0).toInt = d.toInt - (σ 46 0).toInt := i32_sub (by omega) (by omega)
  have hy1 : (d - σ 46 0 + 1).toInt = d.toInt - (σ 46 0).toInt + 1 := by
    rw [i32_add (by rw [hy, t1I]; omega) (by rw [hy, t1I]; omega), hy, t1I]
  unfold sp_179 sm
  refine cloop (fun f i c => lp_179_5 f a d c (nI i) τ) (fun k c => if smP σ a d k then c + pt σ m n x k else c) (fun c => rt c τ) n ?_ ?_ n 0 FU 0 (by omega) (FU_big (by omega))
  · intro f c
    show lp_179_5 (f + 1) a d c (nI n) τ = _
    rw [lp_179_5, Hτ.mn, if_pos (nI_le (Nat.le_refl n) (by omega))]
  · intro f i c hi
    show lp_179_5 (f + 1) a d c (nI i) τ = lp_179_5 f a d (if smP σ a d i then c + pt σ m n x i else c) (nI (i + 1)) τ
    rw [lp_179_5, Hτ.mn, if_neg (nI_ge hi (by omega))]
    have q1 : (σ 26 i < d - σ 46 0 + 1) = (σ 26 i ≤ d - σ 46 0) := propext (by rw [Int32.lt_iff_toInt_lt, Int32.le_iff_toInt_le, hy, hy1]; omega)
    have q2 : sp_123 (σ 26 i) (d - σ 46 0 + 1) d τ = rt (bI (¬ d < σ 26 i ∧ ¬ σ 26 i ≤ d - σ 46 0)) τ := by
      unfold sp_123
      simp only [mb_T, true_or, or_true, q1, rt_bI, it_and, it_not]
      by_cases z1 : d < σ 26 i
      · simp only [if_pos z1, ite_self]
      · simp only [if_neg z1]
    simp only [mb_t (H.i80 hi), H.icl hi, nI_1, e46, Hτ.a60, Hτ.a61, h1 25 (show 25 ≠ 81 by omega), h1 26 (show 26 ≠ 81 by omega), h2 i hi, q2, bn_rt, bI_i0, Int32.add_zero]
    by_cases z3 : σ 25 i = a
    · rw [if_pos z3]
      by_cases z : ¬ d < σ 26 i ∧ ¬ σ 26 i ≤ d - σ 46 0
      · rw [if_pos z, if_pos ⟨z3, z⟩]
      · rw [if_neg z, if_neg (fun q => z q.2)]
    · rw [if_neg z3, if_neg (fun q => z3 q.1)]
end
theorem pr_21 : Pr_21 Inv := by
  intro a d σ hI
  obtain ⟨v, g, t, m, n, x, s, b, w, H⟩ := inv_wf hI
  have H1 := H.ft 1
  by_cases ha : rg a t
  · by_cases hd : rg d 10000
    · obtain ⟨τ, e, h1⟩ := H.e88 a d
      have f1 := h1.fr rfl
      have Hτ := H.fr f1
      obtain ⟨ρ, e2, h2, h3⟩ := Hτ.e178
      refine P2_of (r := sm σ m n x a d) (σ1 := τ) (σ2 := ρ) ?_ ?_ (inv_fr hI (f1.tr (h2.fr rfl)))
      · unfold sp_87
        simp only [H.q1t, bn_rt, if_bI ha, e1_d, if_bI hd, e]
      · show sp_177 a d τ = _
        unfold sp_177
        simp only [Hτ.qt, bn_rt, if_bI ha, e124, if_bI hd, e2, Hτ.e179 h2 h3 a (d := d) ⟨by have := hd.1; omega, by have := hd.2; omega⟩, sm_fr f1]
    · refine p2_b1 hI ?_ ?_
      · unfold sp_87
        simp only [H.q1t, bn_rt, if_bI ha, e1_d, bI_i0, if_neg hd, e2_1]
      · show sp_177 a d (fT 1 σ) = _
        unfold sp_177
        simp only [H1.qt, bn_rt, if_bI ha, e124, bI_i0, if_neg hd, e125_1]
  · refine p2_b1 hI ?_ ?_
    · unfold sp_87
      simp only [H.q1t, bn_rt, bI_i0, if_neg ha, e2_1]
    · show sp_177 a d (fT 1 σ) = _
      unfold sp_177
      simp only [H1.qt, bn_rt, bI_i0, if_neg ha, e125_1]
