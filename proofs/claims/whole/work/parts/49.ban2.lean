/-! pairs: banned -/
section
variable {σ : St} {v g t m n x s b w : Nat}
/-- the class's search -/
theorem Wf.e92 (H : Wf σ v g t m n x s b w) (a : Int32) {d : Int32} (hd : rg d 10000) {l : Nat} (hl : l ≤ 200) (el : σ 46 2 = nI l) : ∃ τ r, sp_92 a d σ = rt r τ ∧ Ex1 47 σ τ ∧ (r = 0 ∨ r = 1) ∧ (r = 1 ↔ bnC σ m n x a (d.toInt - (σ 46 1).toInt + 1) d.toInt l) := by
  have hn := H.n2
  have hB := H.dru.2.1
  obtain ⟨hd1, hd2⟩ := hd
  obtain ⟨τ, e, h1, h2⟩ := H.e89 a
  have Hτ := H.fr (h1.fr rfl)
  have e1' : τ 46 (1 : Int32).toNatClampNeg = σ 46 1 := by
    rw [h1 46 (by omega)]
    rfl
  have e2' : τ 46 (2 : Int32).toNatClampNeg = σ 46 2 := by
    rw [h1 46 (by omega)]
    rfl
  have hf0 : (d - σ 46 1).toInt = d.toInt - (σ 46 1).toInt := i32_sub (by omega) (by omega)
  have hf : (d - σ 46 1 + 1).toInt = d.toInt - (σ 46 1).toInt + 1 := by
    rw [i32_add (by rw [hf0, t1I]; omega) (by rw [hf0, t1I]; omega), hf0, t1I]
  have hfd : dy (d - σ 46 1 + 1) := by
    constructor <;> omega
  have hS := H.smlt a hfd hl el
  rw [hf] at hS
  have hstart : sp_92 a d σ = (if sm σ m n x a (d - σ 46 1 + 1) < σ 46 2 then lp_92_35 FU a d (d - σ 46 1 + 1) (nI 0) τ else rt 1 τ) := by
    unfold sp_92
    simp only [e, bn_rt, mb_t v3_1, mb_t v3_2, e1', H.e90 h1 h2, e2', mb_T, or_true]
    rfl
  have hloop := sloop (fun f i => lp_92_35 f a d (d - σ 46 1 + 1) (nI i) τ) (fun i => ¬ σ 26 i ≤ d - σ 46 1 + 1 ∧ ¬ d < σ 26 i ∧ ¬ τ 47 i ≤ 0 ∧ ¬ sm σ m n x a (σ 26 i) < σ 46 2) (rt 1 τ) (rt 0 τ) n ?_ ?_ n 0 FU (by omega) (FU_big (by omega))
  · by_cases z : sm σ m n x a (d - σ 46 1 + 1) < σ 46 2
    · have z0 : ¬ l ≤ SN σ m n x a (d.toInt - (σ 46 1).toInt + 1) := hS.mp z
      rw [if_pos z] at hstart
      have hloop : lp_92_35 FU a d (d - σ 46 1 + 1) (nI 0) τ = _ := hloop
      rw [hloop] at hstart
      have hP : ∀ i, i < n → ((¬ σ 26 i ≤ d - σ 46 1 + 1 ∧ ¬ d < σ 26 i ∧ ¬ τ 47 i ≤ 0 ∧ ¬ sm σ m n x a (σ 26 i) < σ 46 2) ↔ (σ 25 i = a ∧ d.toInt - (σ 46 1).toInt + 1 < (σ 26 i).toInt ∧ (σ 26 i).toInt ≤ d.toInt ∧ 0 < qN σ m n x i ∧ l ≤ SN σ m n x a (σ 26 i).toInt)) := by
        intro i hi
        have h26 := H.i26 hi
        have q1 : ¬ σ 26 i ≤ d - σ 46 1 + 1 ↔ d.toInt - (σ 46 1).toInt + 1 < (σ 26 i).toInt := by
          rw [Int32.not_le, Int32.lt_iff_toInt_lt, hf]
        have q2 : ¬ d < σ 26 i ↔ (σ 26 i).toInt ≤ d.toInt := by
          rw [Int32.not_lt, Int32.le_iff_toInt_le]
        have q4 : ¬ sm σ m n x a (σ 26 i) < σ 46 2 ↔ l ≤ SN σ m n x a (σ 26 i).toInt := by
          rw [H.smlt a (d := σ 26 i) ⟨by have := h26.1; omega, by have := h26.2; omega⟩ hl el]
          omega
        have q3 : ¬ τ 47 i ≤ 0 ↔ (σ 25 i = a ∧ 0 < qN σ m n x i) := by
          rw [h2 i hi]
          by_cases y : σ 25 i = a
          · rw [if_pos y]
            obtain ⟨p1, p2⟩ := H.ptN hi
            rw [p1, show (0 : Int32) = nI 0 from rfl, nI_leI (by omega) (by omega)]
            constructor
            · intro y2
              exact ⟨y, by omega⟩
            · rintro ⟨_, y2⟩
              omega
          · rw [if_neg y]
            constructor
            · intro y2
              exact absurd (by decide) y2
            · rintro ⟨y2, _⟩
              exact absurd y2 y
        rw [q1, q2, q3, q4]
        constructor
        · rintro ⟨y1, y2, ⟨y3, y4⟩, y5⟩
          exact ⟨y3, y1, y2, y4, y5⟩
        · rintro ⟨y3, y1, y2, y4, y5⟩
          exact ⟨y1, y2, ⟨y3, y4⟩, y5⟩
      by_cases zs : sr (fun k => decide (¬ σ 26 k ≤ d - σ 46 1 + 1 ∧ ¬ d < σ 26 k ∧ ¬ τ 47 k ≤ 0 ∧ ¬ sm σ m n x a (σ 26 k) < σ 46 2)) 0 n = true
      · rw [if_pos zs] at hstart
        refine ⟨τ, 1, hstart, h1, Or.inr rfl, ⟨fun _ => ?_, fun _ => rfl⟩⟩
        obtain ⟨k, _, k2, k3⟩ := (sr_iff _ n 0).mp zs
        have k4 := (hP k (by omega)).mp (of_decide_eq_true k3)
        exact Or.inr ⟨k, by omega, k4.1, k4.2.1, k4.2.2.1, k4.2.2.2.1, k4.2.2.2.2⟩
      · rw [if_neg zs] at hstart
        refine ⟨τ, 0, hstart, h1, Or.inl rfl, ⟨fun q => absurd q n01, ?_⟩⟩
        rintro (q | ⟨k, k1, k2, k3, k4, k5, k6⟩)
        · exact absurd q z0
        · exact absurd ((sr_iff _ n 0).mpr ⟨k, by omega, by omega, decide_eq_true ((hP k k1).mpr ⟨k2, k3, k4, k5, k6⟩)⟩) zs
    · rw [if_neg z] at hstart
      refine ⟨τ, 1, hstart, h1, Or.inr rfl, ⟨fun _ => Or.inl ?_, fun _ => rfl⟩⟩
      apply Classical.byContradiction
      intro q
      exact z (hS.mpr q)
  · intro f
    show lp_92_35 (f + 1) a d (d - σ 46 1 + 1) (nI n) τ = _
    rw [lp_92_35, Hτ.n1, if_pos (nI_le (Nat.le_refl n) (by omega)), mb_t b00]
  · intro f i hi
    show lp_92_35 (f + 1) a d (d - σ 46 1 + 1) (nI i) τ = if (¬ σ 26 i ≤ d - σ 46 1 + 1 ∧ ¬ d < σ 26 i ∧ ¬ τ 47 i ≤ 0 ∧ ¬ sm σ m n x a (σ 26 i) < σ 46 2) then rt 1 τ else lp_92_35 f a d (d - σ 46 1 + 1) (nI (i + 1)) τ
    rw [lp_92_35, Hτ.n1, if_neg (nI_ge hi (by omega))]
    simp only [mb_t (H.i80 hi), H.icl hi, nI_1, h1 26 (show 26 ≠ 47 by omega), H.e90 h1 h2, bn_rt, mb_t v3_2, e2', mb_T, or_true, if_true, eq_false n10, if_false, it_and, it_not]
/-- the model's search -/
theorem Wf.e180 (H : Wf σ v g t m n x s b w) {τ : St} (h1 : Ex1 81 σ τ) (h2 : ∀ i, i < n → τ 81 i = pt σ m n x i) (a : Int32) {d : Int32} (hd : rg d 10000) {l : Nat} (hl : l ≤ 200) (el : σ 46 2 = nI l) : ∀ (j f : Nat) (e : Int32), e.toInt = d.toInt - (σ 46 1).toInt + j → (j : Int) ≤ (σ 46 1).toInt → j < f → ∃ r, lp_180_27 f a d e τ = rt r τ ∧ (r = 0 ∨ r = 1) ∧ (r = 1 ↔ bnM σ m n x a (d.toInt - (σ 46 1).toInt + 1) e.toInt l)
  | 0, f + 1, e, he, _, _ => by
    obtain ⟨hd1, hd2⟩ := hd
    have hB := H.dru.2.1
    have Hτ := H.fr (h1.fr rfl)
    have e12 : τ 12 12 = σ 46 1 := by rw [Hτ.r1, h1 46 (by omega)]
    have hf0 : (d - σ 46 1).toInt = d.toInt - (σ 46 1).toInt := i32_sub (by omega) (by omega)
    refine ⟨0, ?_, Or.inl rfl, ⟨fun q => absurd q n01, ?_⟩⟩
    · rw [lp_180_27, e12, if_pos]
      rw [Int32.le_iff_toInt_le, hf0, he]
      omega
    · rintro ⟨z, z1, z2, z3, z4⟩
      omega
  | j + 1, f + 1, e, he, hj, hf => by
    obtain ⟨hd1, hd2⟩ := hd
    have hB := H.dru.2.1
    have Hτ := H.fr (h1.fr rfl)
    have e12 : τ 12 12 = σ 46 1 := by rw [Hτ.r1, h1 46 (by omega)]
    have e13 : τ 12 13 = σ 46 2 := by rw [Hτ.r2, h1 46 (by omega)]
    have hf0 : (d - σ 46 1).toInt = d.toInt - (σ 46 1).toInt := i32_sub (by omega) (by omega)
    have hne : ¬ e ≤ d - σ 46 1 := by
      rw [Int32.le_iff_toInt_le, hf0, he]
      omega
    rw [lp_180_27, e12, if_neg hne]
    by_cases z0 : e < 0
    · refine ⟨0, by rw [if_pos z0], Or.inl rfl, ⟨fun q => absurd q n01, ?_⟩⟩
      rintro ⟨z, z1, z2, z3, z4⟩
      have := xlt0.mp z0
      omega
    · have hed : dy e := by
        have : 0 ≤ e.toInt := Int.not_lt.mp (fun q => z0 (xlt0.mpr q))
        constructor <;> omega
      have he0 : 0 ≤ e.toInt := Int.not_lt.mp (fun q => z0 (xlt0.mpr q))
      have hS := H.smlt a hed hl el
      rw [if_neg z0, H.e179 h1 h2 a hed, bn_rt, e13]
      by_cases z : sm σ m n x a e < σ 46 2
      · have z' := hS.mp z
        rw [if_pos z]
        have he1 : (e + -1).toInt = e.toInt - 1 := by
          rw [← Int32.sub_eq_add_neg, i32_sub (by rw [t1I]; omega) (by rw [t1I]; omega), t1I]
        obtain ⟨r, r1, r2, r3⟩ := H.e180 h1 h2 a ⟨hd1, hd2⟩ hl el j f (e + -1) (by omega) (by omega) (by omega)
        refine ⟨r, r1, r2, r3.trans ?_⟩
        rw [he1]
        constructor
        · rintro ⟨y, y1, y2, y3, y4⟩
          exact ⟨y, y1, by omega, y3, y4⟩
        · rintro ⟨y, y1, y2, y3, y4⟩
          by_cases ye : y = e.toInt
          · rw [ye] at y4
            exact absurd y4 z'
          · exact ⟨y, y1, by omega, y3, y4⟩
      · rw [if_neg z]
        refine ⟨1, rfl, Or.inr rfl, ⟨fun _ => ⟨e.toInt, by omega, Int.le_refl _, he0, ?_⟩, fun _ => rfl⟩⟩
        apply Classical.byContradiction
        intro q
        exact z (hS.mpr q)
  | 0, 0, _, _, _, h => absurd h (by omega)
  | _ + 1, 0, _, _, _, h => absurd h (by omega)
end
theorem bnM_fr {σ τ : St} (h : Fr σ τ) {m n x : Nat} {a : Int32} {f d : Int} {l : Nat} : bnM τ m n x a f d l ↔ bnM σ m n x a f d l := by
  have h1 : ∀ ρ : St, bnM (msk ρ) m n x a f d l ↔ bnM ρ m n x a f d l := fun _ => Iff.rfl
  rw [← h1 τ, ← h1 σ, msk_fr h]
theorem pr_22 : Pr_22 Inv := by
  intro a d σ hI
  obtain ⟨v, g, t, m, n, x, s, b, w, H⟩ := inv_wf hI
  have H1 := H.ft 1
  by_cases ha : rg a t
  · by_cases hd : rg d 10000
    · obtain ⟨l, l1, l2, el⟩ := H.lim
      have hB := H.dru.2.1
      obtain ⟨τ, r, e, h1, hr, hr1⟩ := H.e92 a hd l2 el
      have f1 := h1.fr (c := 47) rfl
      have Hτ := H.fr f1
      have el' : τ 46 2 = nI l := by rw [h1 46 (by omega)]; exact el
      have e461 : τ 46 1 = σ 46 1 := by rw [h1 46 (by omega)]
      obtain ⟨ρ, e2, h2, h3⟩ := Hτ.e178
      obtain ⟨r', q1, q2, q3⟩ := Hτ.e180 h2 h3 a hd l2 el' (σ 46 1).toInt.toNat FU d (by rw [e461]; omega) (by rw [e461]; omega) (FU_big (by omega))
      have hrr : r' = r := by
        have hiff := ban_iff (σ := σ) (m := m) (n := n) (x := x) (a := a) (f := d.toInt - (σ 46 1).toInt + 1) (d := d.toInt) l1 (by omega) (fun k hk => (H.i26 hk).1)
        rw [e461] at q3
        have q4 := q3.trans (bnM_fr f1)
        have q5 := q4.trans (hiff.symm.trans hr1.symm)
        rcases q2 with rfl | rfl
        · rcases hr with rfl | rfl
          · rfl
          · exact absurd (q5.mpr rfl) n01
        · exact (q5.mp rfl).symm
      refine P2_of (r := r) (σ1 := τ) (σ2 := ρ) ?_ ?_ (inv_fr hI (f1.tr (h2.fr rfl)))
      · unfold sp_91
        simp only [H.q1t, bn_rt, if_bI ha, e1_d, if_bI hd, e, r01 hr]
      · show sp_180 a d τ = _
        unfold sp_180
        simp only [Hτ.qt, bn_rt, if_bI ha, e124, if_bI hd, e2, q1, hrr]
    · refine p2_b1 hI ?_ ?_
      · unfold sp_91
        simp only [H.q1t, bn_rt, if_bI ha, e1_d, bI_i0, if_neg hd, e2_1]
      · show sp_180 a d (fT 1 σ) = _
        unfold sp_180
        simp only [H1.qt, bn_rt, if_bI ha, e124, bI_i0, if_neg hd, e125_1]
  · refine p2_b1 hI ?_ ?_
    · unfold sp_91
      simp only [H.q1t, bn_rt, bI_i0, if_neg ha, e2_1]
    · show sp_180 a d (fT 1 σ) = _
      unfold sp_180
      simp only [H1.qt, bn_rt, bI_i0, if_neg ha, e125_1]
