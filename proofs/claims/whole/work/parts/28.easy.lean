/-! pairs: vehicle -/
theorem bI_i0 {p : Prop} [Decidable p] {α : Type} (A B : α) : (if bI p = 0 then A else B) = (if p then B else A) := by
  by_cases h : p
  · rw [if_neg (by rw [bI_t h]; decide), if_pos h]
  · rw [if_pos (bI_f h), if_neg h]
theorem bI_i1 {p : Prop} [Decidable p] {α : Type} (A B : α) : (if bI p = 1 then A else B) = (if p then A else B) := by
  by_cases h : p
  · rw [if_pos (bI_t h), if_pos h]
  · rw [if_neg (by rw [bI_f h]; decide), if_neg h]
theorem e1_4 (x : Int32) (σ : St) : sp_1 x 4 σ = rt (bI (rg x 4)) σ := e1 x (n := 4) (by omega) σ
theorem e1_d (x : Int32) (σ : St) : sp_1 x 10000 σ = rt (bI (rg x 10000)) σ := e1 x (n := 10000) (by omega) σ
theorem e1_2 (x : Int32) (σ : St) : sp_1 x 2 σ = rt (bI (rg x 2)) σ := e1 x (n := 2) (by omega) σ
theorem e123_3 (x : Int32) (σ : St) : sp_123 x 0 3 σ = rt (bI (rg x 4)) σ := e123 x (n := 3) (by omega) σ
theorem e123_1 (x : Int32) (σ : St) : sp_123 x 0 1 σ = rt (bI (rg x 2)) σ := e123 x (n := 1) (by omega) σ
theorem e2_1 (σ : St) : sp_2 1 σ = rt (-1000001) (fT 1 σ) := e2 (k := 1) (by omega) σ
theorem e2_2 (σ : St) : sp_2 2 σ = rt (-1000002) (fT 2 σ) := e2 (k := 2) (by omega) σ
theorem e2_3 (σ : St) : sp_2 3 σ = rt (-1000003) (fT 3 σ) := e2 (k := 3) (by omega) σ
theorem e2_4 (σ : St) : sp_2 4 σ = rt (-1000004) (fT 4 σ) := e2 (k := 4) (by omega) σ
theorem e2_5 (σ : St) : sp_2 5 σ = rt (-1000005) (fT 5 σ) := e2 (k := 5) (by omega) σ
theorem e125_1 (σ : St) : sp_125 1 σ = rt (-1000001) (fM 1 σ) := e125 (k := 1) (by omega) σ
theorem e125_2 (σ : St) : sp_125 2 σ = rt (-1000002) (fM 2 σ) := e125 (k := 2) (by omega) σ
theorem e125_3 (σ : St) : sp_125 3 σ = rt (-1000003) (fM 3 σ) := e125 (k := 3) (by omega) σ
theorem e125_4 (σ : St) : sp_125 4 σ = rt (-1000004) (fM 4 σ) := e125 (k := 4) (by omega) σ
theorem e125_5 (σ : St) : sp_125 5 σ = rt (-1000005) (fM 5 σ) := e125 (k := 5) (by omega) σ
theorem p2_f1 {σ : St} (h : Inv σ) : P2 (rt (-1000001) (fT 1 σ)) (fun σ1 => rt (-1000001) (fM 1 σ1)) Inv := P2_of rfl rfl (inv_find h 1)
theorem p2_f2 {σ : St} (h : Inv σ) : P2 (rt (-1000002) (fT 2 σ)) (fun σ1 => rt (-1000002) (fM 2 σ1)) Inv := P2_of rfl rfl (inv_find h 2)
theorem p2_f3 {σ : St} (h : Inv σ) : P2 (rt (-1000003) (fT 3 σ)) (fun σ1 => rt (-1000003) (fM 3 σ1)) Inv := P2_of rfl rfl (inv_find h 3)
theorem p2_f4 {σ : St} (h : Inv σ) : P2 (rt (-1000004) (fT 4 σ)) (fun σ1 => rt (-1000004) (fM 4 σ1)) Inv := P2_of rfl rfl (inv_find h 4)
theorem p2_f5 {σ : St} (h : Inv σ) : P2 (rt (-1000005) (fT 5 σ)) (fun σ1 => rt (-1000005) (fM 5 σ1)) Inv := P2_of rfl rfl (inv_find h 5)
theorem rg_le {x : Int32} {n k : Nat} (h : rg x n) (hk : n ≤ k) : rg x k := ⟨h.1, by have := h.2; omega⟩
theorem upd_new {f : Nat → Int32} {n : Nat} {x : Int32} {P : Int32 → Prop} (h : ∀ i, i < n → P (f i)) (hx : P x) : ∀ i, i < n + 1 → P (upd f n x i) := by
  intro i hi
  unfold upd
  by_cases e : i = n
  · rw [if_pos e]; exact hx
  · rw [if_neg e]; exact h i (by omega)
theorem e3 {σ : St} {v : Nat} (hv : σ 1 3 = nI v) (h24 : v < 24) (a b c : Int32) : sp_3 a b c σ = rt (nI v) (up (up (up (up σ 15 v a) 16 v b) 17 v c) 1 3 (nI (v + 1))) := by
  unfold sp_3
  have h := vp_in_nI h24 (show 24 < 2 ^ 31 by omega)
  rw [hv, mb_t h, mb_t h, mb_t h, nI_cl (by omega), nI_1, show nI (v + 1) - 1 = nI v from nI_pred v]
theorem pr_0 : Pr_0 Inv := by
  intro a b c σ hI
  obtain ⟨hS, hA, hT, hX, v, g, t, m, n, x, s, bb, w, hC, hD⟩ := id hI
  have hv := hC.1
  have hvm : σ 12 0 = nI v := hS.1.trans hv.1
  unfold sp_0 sp_122
  simp only [e1_4, e1_d, e123_3, e124, bn_rt, bn_id, bI_i0, e2_1, e2_4, e125_1, e125_4]
  by_cases ha : rg a 4
  · simp only [if_pos ha]
    by_cases hb : rg b 4
    · simp only [if_pos hb]
      by_cases hc : rg c 10000
      · simp only [if_pos hc]
        by_cases h : v < 24
        · have h1 : σ 1 3 < 24 := by rw [hv.1]; exact (nI_ltI (by omega) (show 24 < 2 ^ 31 by omega)).mpr h
          rw [if_pos h1, e3 hv.1 h]
          have h2 : ¬ (up (up (up (up σ 15 v a) 16 v b) 17 v c) 1 3 (nI (v + 1))) 12 0 = 24 := by
            show ¬ σ 12 0 = nI 24
            rw [hvm, nI_eq (by omega) (by omega)]
            omega
          have h3 : vp_in (σ 12 0) 24 := by rw [hvm]; exact vp_in_nI h (by omega)
          refine P2_of (σ2 := up (up (up (up (up (up (up (up σ 15 v a) 16 v b) 17 v c) 1 3 (nI (v + 1))) 50 v a) 51 v b) 52 v c) 12 0 (nI (v + 1))) rfl ?_ ?_
          · rw [if_neg h2]
            show mb (vp_in (σ 12 0) 24) (mb (vp_in (σ 12 0) 24) (mb (vp_in (σ 12 0) 24) (rt (σ 12 0 + 1 - 1) (up (up (up (up _ 50 (σ 12 0).toNatClampNeg a) 51 (σ 12 0).toNatClampNeg b) 52 (σ 12 0).toNatClampNeg c) 12 0 (σ 12 0 + 1))))) = _
            rw [mb_t h3, mb_t h3, mb_t h3, hvm, nI_cl (by omega), nI_1, show nI (v + 1) - 1 = nI v from nI_pred v]
          · obtain ⟨s1, s2⟩ := hS
            obtain ⟨a1, a2, a3, a4⟩ := hA
            obtain ⟨c1, c2⟩ := hC
            obtain ⟨d1, d2, d3, d4⟩ := hD
            refine ⟨⟨rfl, s2⟩, ⟨?_, ?_, ?_, a4⟩, hT, hX, v + 1, g, t, m, n, x, s, bb, w, ⟨⟨rfl, by omega⟩, c2⟩, ⟨?_, d2, ?_, d4⟩⟩
            · show upd (σ 50) v a = upd (σ 15) v a
              rw [a1]
            · show upd (σ 51) v b = upd (σ 16) v b
              rw [a2]
            · show upd (σ 52) v c = upd (σ 17) v c
              rw [a3]
            · intro i hi
              exact ⟨upd_new (P := fun z => rg z 4) (fun i hi => (d1 i hi).1) ha i hi, upd_new (P := fun z => rg z 4) (fun i hi => (d1 i hi).2.1) hb i hi, upd_new (P := fun z => rg z 10000) (fun i hi => (d1 i hi).2.2) hc i hi⟩
            · intro i hi
              obtain ⟨⟨q1, q2⟩, q3⟩ := d3 i hi
              exact ⟨⟨rg_le q1 (by omega), q2⟩, q3⟩
        · have h1 : ¬ σ 1 3 < 24 := by rw [hv.1]; exact fun z => h ((nI_ltI (by omega) (show 24 < 2 ^ 31 by omega)).mp z)
          rw [if_neg h1]
          have h2 : fT 4 σ 12 0 = 24 := by
            show σ 12 0 = nI 24
            rw [hvm, nI_eq (by omega) (by omega)]
            omega
          exact P2_of rfl (by rw [if_pos h2]) (inv_find hI 4)
      · simp only [if_neg hc]
        exact p2_f1 hI
    · simp only [if_neg hb]
      exact p2_f1 hI
  · simp only [if_neg ha]
    exact p2_f1 hI
