/-! pairs: rate -/
def raS (σ : St) (m n : Nat) (g : Int32) (k : Nat) (p : Int32 × Int32 × Int32 × Int32) : Int32 × Int32 × Int32 × Int32 := if gr σ m k = g then (p.1 + 1, p.2.1 + σ 33 k, p.2.2.1 + sh σ n (ce σ k), p.2.2.2 + sh σ n (ce σ k) * (1000 - sh σ n (ce σ k))) else p
def ra (σ : St) (m n : Nat) (g : Int32) (j : Nat) : Int32 × Int32 × Int32 × Int32 := fol (raS σ m n g) 0 j (0, 0, 0, 0)
theorem ra_s (σ : St) (m n : Nat) (g : Int32) (j : Nat) : ra σ m n g (j + 1) = raS σ m n g j (ra σ m n g j) := by
  unfold ra
  rw [fol_last, Nat.zero_add]
def orF (σ : St) (m j : Nat) : Int32 := fol (fun k a => a ||| ((1 : Int32) <<< (gr σ m k &&& 31))) 0 j 0
set_option maxRecDepth 100000 in
theorem or_tab {a q : Nat} (ha : a < 64) (hq : q < 6) : rg (nI a ||| ((1 : Int32) <<< (nI q &&& 31))) 64 := by
  have h := co_dec (N := 384) (P := fun i => rg (nI (i / 6) ||| ((1 : Int32) <<< (nI (i % 6) &&& 31))) 64) (by decide +kernel) (i := a * 6 + q) (by omega)
  have h1 : (a * 6 + q) / 6 = a := by omega
  have h2 : (a * 6 + q) % 6 = q := by omega
  rw [h1, h2] at h
  exact h
def Ex3 (σ τ : St) : Prop := ∀ d, d ≠ 43 → d ≠ 44 → d ≠ 7 → τ d = σ d
theorem Ex3.fr {σ τ : St} (h : Ex3 σ τ) : Fr σ τ := fun d hd => h d (fun e => by rw [e] at hd; cases hd) (fun e => by rw [e] at hd; cases hd) (fun e => by rw [e] at hd; cases hd)
theorem Ex3.up {σ τ : St} (h : Ex3 σ τ) (i : Nat) (z : Int32) : Ex3 σ (up τ 7 i z) := fun d h1 h2 h3 => by
  rw [up_ne τ i z h3]
  exact h d h1 h2 h3
theorem orF_fr {σ τ : St} (h : Fr σ τ) (m n : Nat) : orF τ m n = orF σ m n := by
  have h1 : ∀ ρ : St, orF (msk ρ) m n = orF ρ m n := fun _ => rfl
  rw [← h1 τ, ← h1 σ, msk_fr h]
theorem ra_fr {σ τ : St} (h : Fr σ τ) (m n : Nat) (g : Int32) (j : Nat) : ra τ m n g j = ra σ m n g j := by
  have h1 : ∀ ρ : St, ra (msk ρ) m n g j = ra ρ m n g j := fun _ => rfl
  rw [← h1 τ, ← h1 σ, msk_fr h]
/-- beyond chance -/
def bey (M : Int64) (S o : Int32) : Int32 := if 0 < lg_cmp (M * M) (S.toInt64 * ((4 : Int32) + o).toInt64) then (if lg_cmp M (Int32.toInt64 0) ≤ 0 then 2 else 1) else 0
section
variable {σ : St} {v g t m n x s b w : Nat}
theorem Wf.orrg (H : Wf σ v g t m n x s b w) : ∀ j, j ≤ n → rg (orF σ m j) 64
  | 0, _ => by
    show rg (0 : Int32) 64
    decide
  | j + 1, hj => by
    have hg := H.g2
    have ih := H.orrg j (by omega)
    obtain ⟨a, ha, ea⟩ := rg_of ih (by omega)
    obtain ⟨q, hq, eq⟩ := rg_of (H.rgr (show j < n by omega)) (by omega)
    have e : orF σ m (j + 1) = orF σ m j ||| ((1 : Int32) <<< (gr σ m j &&& 31)) := by
      unfold orF
      rw [fol_last, Nat.zero_add]
    rw [e, ea, eq]
    exact or_tab ha (by omega)
theorem Wf.e70 (H : Wf σ v g t m n x s b w) : sp_70 σ = rt (bc (orF σ m n)) σ := by
  have hn := H.n2
  unfold sp_70
  refine cloop (fun f i c => lp_70_4 f c (nI i) σ) (fun k a => a ||| ((1 : Int32) <<< (gr σ m k &&& 31))) (fun c => rt (bc c) σ) n ?_ ?_ n 0 FU 0 (by omega) (FU_big (by omega))
  · intro f c
    show lp_70_4 (f + 1) c (nI n) σ = _
    rw [lp_70_4, H.n1, if_pos (nI_le (Nat.le_refl n) (by omega)), e59, bn_rt]
  · intro f i c hi
    show lp_70_4 (f + 1) c (nI i) σ = lp_70_4 f _ (nI (i + 1)) σ
    rw [lp_70_4, H.n1, if_neg (nI_ge hi (by omega)), H.f24 hi, bn_rt, nI_1]
theorem Wf.e159 (H : Wf σ v g t m n x s b w) : sp_159 σ = rt (bc (orF σ m n)) σ := by
  have hn := H.n2
  unfold sp_159
  have hl := cloop (fun f i c => lp_159_4 f c (nI i) σ) (fun k a => a ||| ((1 : Int32) <<< (gr σ m k &&& 31))) (fun c => bn (sp_160 c σ) (fun r3 σ3 => rt r3 σ3)) n ?_ ?_ n 0 FU 0 (by omega) (FU_big (by omega))
  · have hl : lp_159_4 FU 0 (nI 0) σ = bn (sp_160 (orF σ m n) σ) (fun r3 σ3 => rt r3 σ3) := hl
    show lp_159_4 FU 0 (nI 0) σ = _
    rw [hl, e160 (rg_le (H.orrg n (Nat.le_refl n)) (by omega)), bn_rt]
  · intro f c
    show lp_159_4 (f + 1) c (nI n) σ = _
    rw [lp_159_4, H.mn, if_pos (nI_le (Nat.le_refl n) (by omega))]
  · intro f i c hi
    show lp_159_4 (f + 1) c (nI i) σ = lp_159_4 f _ (nI (i + 1)) σ
    rw [lp_159_4, H.mn, if_neg (nI_ge hi (by omega)), H.f141 hi, bn_rt, nI_1]
theorem Wf.shb (H : Wf σ v g t m n x s b w) (c : Int32) : -1 ≤ (sh σ n c).toInt ∧ (sh σ n c).toInt ≤ 80000 := by
  have hn := H.n2
  obtain ⟨k, hk, ek⟩ := ceA_rg σ c n
  obtain ⟨p, hp, ep⟩ := H.cGrg c n (Nat.le_refl n)
  unfold sh
  split
  · have : (-1 : Int32).toInt = -1 := rfl
    omega
  · next z =>
    have hk0 : k ≠ 0 := by
      rintro rfl
      exact z ek
    rw [ek, ep, show (1000 : Int32) = nI 1000 from rfl, pk_mul, pk_div (by omega) (by omega) (by omega)]
    have hq : 1000 * p / k ≤ 80000 := Nat.le_trans (Nat.div_le_self _ _) (by omega)
    generalize 1000 * p / k = Q at hq ⊢
    rw [nI_toInt (by omega)]
    omega
theorem Wf.rab (H : Wf σ v g t m n x s b w) (a : Int32) : ∀ j, j ≤ n → (∃ p, p ≤ j ∧ (ra σ m n a j).2.1 = nI p) ∧ -(j : Int) ≤ (ra σ m n a j).2.2.1.toInt ∧ (ra σ m n a j).2.2.1.toInt ≤ 80000 * j
  | 0, _ => ⟨⟨0, Nat.le_refl _, rfl⟩, (by decide : -((0 : Nat) : Int) ≤ (0 : Int32).toInt), (by decide : (0 : Int32).toInt ≤ 80000 * ((0 : Nat) : Int))⟩
  | j + 1, hj => by
    have hn := H.n2
    obtain ⟨⟨p, hp, ep⟩, h1, h2⟩ := H.rab a j (by omega)
    rw [ra_s]
    unfold raS
    split
    · obtain ⟨y, hy, ey⟩ := rg_of (H.i33 (show j < n by omega)) (by omega)
      have hs := H.shb (ce σ j)
      refine ⟨⟨p + y, by omega, ?_⟩, ?_, ?_⟩
      · show (ra σ m n a j).2.1 + σ 33 j = _
        rw [ep, ey, nI_add]
      · show _ ≤ ((ra σ m n a j).2.2.1 + sh σ n (ce σ j)).toInt
        rw [i32_add (by omega) (by omega)]
        omega
      · show ((ra σ m n a j).2.2.1 + sh σ n (ce σ j)).toInt ≤ _
        rw [i32_add (by omega) (by omega)]
        omega
    · exact ⟨⟨p, by omega, ep⟩, by omega, by omega⟩
theorem Wf.raM (H : Wf σ v g t m n x s b w) (a : Int32) : ((Int32.toInt64 1000) * (ra σ m n a n).2.1.toInt64) - (ra σ m n a n).2.2.1.toInt64 = ((1000 : Int32) * (ra σ m n a n).2.1 - (ra σ m n a n).2.2.1).toInt64 := by
  have hn := H.n2
  obtain ⟨⟨p, hp, ep⟩, h1, h2⟩ := H.rab a n (Nat.le_refl n)
  rw [ep, nI_l (by omega), show Int32.toInt64 1000 = lN 1000 from rfl, lN_mul, show (1000 : Int32) = nI 1000 from rfl, pk_mul]
  apply Int64.toInt_inj.mp
  have e0 : (nI (1000 * p)).toInt = ((1000 * p : Nat) : Int) := nI_toInt (by omega)
  rw [Int32.toInt_toInt64, i32_sub (by rw [e0]; omega) (by rw [e0]; omega), e0, Int64.toInt_sub, lN_toInt (by omega), Int32.toInt_toInt64]
  exact Int.bmod_eq_of_le_mul_two (by omega) (by omega)
theorem Wf.e66 (H : Wf σ v g t m n x s b w) {τ : St} (h1 : Ex2 43 44 σ τ) (h2 : ∀ c, c < 16 → τ 43 c = ceA σ (nI c) n ∧ τ 44 c = ceG σ (nI c) n) (a : Int32) : ∃ ρ, sp_66 a τ = rt 0 ρ ∧ Ex3 σ ρ ∧ (ρ 7 5, ρ 7 6, ρ 7 7, ρ 7 8) = ra σ m n a n := by
  have hn := H.n2
  unfold sp_66
  have h0 : Ex3 σ τ := fun d q1 q2 _ => h1 d q1 q2
  have hlp := iloop (fun f i ρ => lp_66_22 f a (nI i) ρ) (fun j ρ => (Ex3 σ ρ ∧ ρ 43 = τ 43 ∧ ρ 44 = τ 44) ∧ (ρ 7 5, ρ 7 6, ρ 7 7, ρ 7 8) = ra σ m n a j) n ?_ n 0 FU (up (up (up (up τ 7 5 0) 7 6 0) 7 7 0) 7 8 0) (by omega) (FU_big (by omega)) ⟨⟨(((h0.up 5 0).up 6 0).up 7 0).up 8 0, rfl, rfl⟩, rfl⟩
  · obtain ⟨k, ρ, ⟨⟨h3, _, _⟩, h4⟩, e⟩ := hlp
    refine ⟨ρ, ?_, h3, h4⟩
    show lp_66_22 FU a (nI 0) _ = _
    rw [e]
    show lp_66_22 (k + 1) a (nI n) ρ = _
    rw [lp_66_22, (H.fr h3.fr).n1, if_pos (nI_le (Nat.le_refl n) (by omega))]
  · intro f j ρ hj ⟨⟨h3, h43, h44⟩, h4⟩
    have Hρ := H.fr h3.fr
    have hT : ∀ c, c < 16 → ρ 43 c = ceA σ (nI c) n ∧ ρ 44 c = ceG σ (nI c) n := by
      rw [h43, h44]
      exact h2
    rw [ra_s, ← h4]
    unfold raS
    by_cases z : gr σ m j = a
    · refine ⟨up (up (up (up ρ 7 5 (ρ 7 5 + 1)) 7 6 (ρ 7 6 + σ 33 j)) 7 7 (ρ 7 7 + sh σ n (ce σ j))) 7 8 (ρ 7 8 + sh σ n (ce σ j) * (1000 - sh σ n (ce σ j))), ⟨⟨(((h3.up 5 _).up 6 _).up 7 _).up 8 _, h43, h44⟩, ?_⟩, ?_⟩
      · rw [if_pos z]
        rfl
      · show lp_66_22 (f + 1) a (nI j) ρ = lp_66_22 f a (nI (j + 1)) _
        rw [lp_66_22, Hρ.n1, if_neg (nI_ge hj (by omega))]
        simp only [Hρ.f24 hj, bn_rt, gr_fr h3.fr, if_pos z, Hρ.e64 hj, ce_fr h3.fr, H.e67 hT (H.cerg hj), mb_t (H.i80 hj), H.icl hj, nI_1, h3 33 (show 33 ≠ 43 by omega) (show 33 ≠ 44 by omega) (show 33 ≠ 7 by omega)]
    · refine ⟨ρ, ⟨⟨h3, h43, h44⟩, ?_⟩, ?_⟩
      · rw [if_neg z]
      · show lp_66_22 (f + 1) a (nI j) ρ = lp_66_22 f a (nI (j + 1)) _
        rw [lp_66_22, Hρ.n1, if_neg (nI_ge hj (by omega))]
        simp only [Hρ.f24 hj, bn_rt, gr_fr h3.fr, if_neg z, nI_1]
theorem Wf.e69 (H : Wf σ v g t m n x s b w) : sp_69 σ = rt (bey (((1000 : Int32) * σ 7 6 - σ 7 7).toInt64) (σ 7 8) (bc (orF σ m n))) σ := by
  unfold sp_69 sp_68 bey
  simp only [bn_rt, H.e70, rt_ite]
theorem Wf.e158 (H : Wf σ v g t m n x s b w) (a c : Int32) : lp_158_38 FU a c 0 0 0 0 0 σ = lp_158_38 1 a c (ra σ m n a n).1 (ra σ m n a n).2.1 (ra σ m n a n).2.2.1 (ra σ m n a n).2.2.2 (nI n) σ := by
  have hn := H.n2
  refine cloop (fun f i (p : Int32 × Int32 × Int32 × Int32) => lp_158_38 f a c p.1 p.2.1 p.2.2.1 p.2.2.2 (nI i) σ) (raS σ m n a) (fun p => lp_158_38 1 a c p.1 p.2.1 p.2.2.1 p.2.2.2 (nI n) σ) n ?_ ?_ n 0 FU (0, 0, 0, 0) (by omega) (FU_big (by omega))
  · intro f p
    show lp_158_38 (f + 1) a c p.1 p.2.1 p.2.2.1 p.2.2.2 (nI n) σ = lp_158_38 (0 + 1) a c p.1 p.2.1 p.2.2.1 p.2.2.2 (nI n) σ
    rw [lp_158_38, lp_158_38, H.mn, if_pos (nI_le (Nat.le_refl n) (by omega)), if_pos (nI_le (Nat.le_refl n) (by omega))]
  · intro f i p hi
    show lp_158_38 (f + 1) a c p.1 p.2.1 p.2.2.1 p.2.2.2 (nI i) σ = lp_158_38 f a c (raS σ m n a i p).1 (raS σ m n a i p).2.1 (raS σ m n a i p).2.2.1 (raS σ m n a i p).2.2.2 (nI (i + 1)) σ
    rw [lp_158_38, H.mn, if_neg (nI_ge hi (by omega))]
    unfold raS
    simp only [H.f141 hi, bn_rt, H.e157 hi, H.e156, mb_t (H.i80 hi), H.icl hi, nI_1, H.a70, Int32.add_zero]
    by_cases z : gr σ m i = a
    · simp only [if_pos z]
      rcases H.p01 hi with e | e
      · rw [e, if_pos rfl, Int32.add_zero]
      · rw [e, if_neg n10]
    · simp only [if_neg z]
end
/-- a figure of a garage -/
def raV (σ : St) (m n x : Nat) (a c : Int32) : Int32 := if c = 0 then (ra σ m n a n).1 else if c = 1 then (ra σ m n a n).2.1 else if c = 2 then (ra σ m n a n).2.2.1 else if c = 3 then (ra σ m n a n).2.2.2 else if c = 4 then 1000 * (ra σ m n a n).2.1 - (ra σ m n a n).2.2.1 else if c = 5 then bey ((1000 * (ra σ m n a n).2.1 - (ra σ m n a n).2.2.1).toInt64) (ra σ m n a n).2.2.2 (bc (orF σ m n)) else rk σ m n x a
theorem raV_fr {σ τ : St} (h : Fr σ τ) (m n x : Nat) (a c : Int32) : raV τ m n x a c = raV σ m n x a c := by
  unfold raV
  rw [ra_fr h, orF_fr h, rk_fr h]
section
variable {σ : St} {v g t m n x s b w : Nat}
theorem Wf.e62 (H : Wf σ v g t m n x s b w) (a : Int32) {c : Int32} (hc : rg c 7) (h6 : ¬ c = 6) : ∃ τ, sp_62 a c σ = rt (raV σ m n x a c) τ ∧ Fr σ τ := by
  obtain ⟨τ, e, h1, h2⟩ := H.e63
  obtain ⟨ρ, e2, h3, h4⟩ := H.e66 h1 h2 a
  have Hρ := H.fr h3.fr
  refine ⟨ρ, ?_, h3.fr⟩
  unfold sp_62 raV
  rw [← h4]
  have k69 := Hρ.e69
  rw [orF_fr h3.fr] at k69
  have k68 : sp_68 ρ = rt (1000 * ρ 7 6 - ρ 7 7) ρ := rfl
  simp only [e, bn_rt, e2, k68, k69, rt_ite]
  by_cases z0 : c = 0
  · simp only [if_pos z0]
  · by_cases z1 : c = 1
    · simp only [if_neg z0, if_pos z1]
    · by_cases z2 : c = 2
      · simp only [if_neg z0, if_neg z1, if_pos z2]
      · by_cases z3 : c = 3
        · simp only [if_neg z0, if_neg z1, if_neg z2, if_pos z3]
        · by_cases z4 : c = 4
          · simp only [if_neg z0, if_neg z1, if_neg z2, if_neg z3, if_pos z4]
          · have z5 : c = 5 := by
              obtain ⟨j, hj, rfl⟩ := rg_of hc (by omega)
              rcases (show j = 0 ∨ j = 1 ∨ j = 2 ∨ j = 3 ∨ j = 4 ∨ j = 5 ∨ j = 6 by omega) with rfl | rfl | rfl | rfl | rfl | rfl | rfl
              · exact absurd rfl z0
              · exact absurd rfl z1
              · exact absurd rfl z2
              · exact absurd rfl z3
              · exact absurd rfl z4
              · rfl
              · exact absurd rfl h6
            simp only [if_neg z0, if_neg z1, if_neg z2, if_neg z3, if_neg z4, if_pos z5]
theorem Wf.e158v (H : Wf σ v g t m n x s b w) (a c : Int32) : lp_158_38 FU a c 0 0 0 0 0 σ = rt (raV σ m n x a c) σ := by
  have hn := H.n2
  rw [H.e158]
  show lp_158_38 (0 + 1) a c _ _ _ _ (nI n) σ = _
  have hM := H.raM a
  rw [lp_158_38, H.mn, if_pos (nI_le (Nat.le_refl n) (by omega))]
  unfold raV bey
  simp only [hM, Int32.toInt32_toInt64, H.e159, bn_rt, H.e161, rt_ite]
end
theorem e1_7 (x : Int32) (σ : St) : sp_1 x 7 σ = rt (bI (rg x 7)) σ := e1 x (n := 7) (by omega) σ
theorem e123_6 (x : Int32) (σ : St) : sp_123 x 0 6 σ = rt (bI (rg x 7)) σ := e123 x (n := 6) (by omega) σ
theorem pr_13 : Pr_13 Inv := by
  intro a c σ hI
  obtain ⟨v, g, t, m, n, x, s, b, w, H⟩ := inv_wf hI
  have H1 := H.ft 1
  by_cases ha : rg a g
  · by_cases hc : rg c 7
    · have key : ∀ τ, Fr σ τ → sp_47 a c σ = rt (raV σ m n x a c) τ → P2 (sp_47 a c σ) (fun σ1 => sp_158 a c σ1) Inv := by
        intro τ f1 e
        have Hτ := H.fr f1
        refine P2_of (r := raV σ m n x a c) (σ1 := τ) (σ2 := τ) e ?_ (inv_fr hI f1)
        show sp_158 a c τ = _
        unfold sp_158
        simp only [Hτ.qg, bn_rt, if_bI ha, e123_6, if_bI hc, Hτ.e158v, raV_fr f1]
      by_cases h6 : c = 6
      · obtain ⟨τ, e, h1, h2, h3⟩ := H.e49 a
        refine key τ (h1.fr rfl) ?_
        have e6 : raV σ m n x a c = rk σ m n x a := by
          unfold raV
          rw [h6, if_neg (by decide), if_neg (by decide), if_neg (by decide), if_neg (by decide), if_neg (by decide), if_neg (by decide)]
        unfold sp_47 sp_48
        simp only [H.q1g, bn_rt, if_bI ha, e1_7, if_bI hc, if_pos h6, e, h2, e6]
      · obtain ⟨τ, e, f1⟩ := H.e62 a hc h6
        refine key τ f1 ?_
        unfold sp_47
        simp only [H.q1g, bn_rt, if_bI ha, e1_7, if_bI hc, if_neg h6, e]
    · refine p2_b1 hI ?_ ?_
      · unfold sp_47
        simp only [H.q1g, bn_rt, if_bI ha, e1_7, bI_i0, if_neg hc, e2_1]
      · show sp_158 a c (fT 1 σ) = _
        unfold sp_158
        simp only [H1.qg, bn_rt, if_bI ha, e123_6, bI_i0, if_neg hc, e125_1]
  · refine p2_b1 hI ?_ ?_
    · unfold sp_47
      simp only [H.q1g, bn_rt, bI_i0, if_neg ha, e2_1]
    · show sp_158 a c (fT 1 σ) = _
      unfold sp_158
      simp only [H1.qg, bn_rt, bI_i0, if_neg ha, e125_1]
