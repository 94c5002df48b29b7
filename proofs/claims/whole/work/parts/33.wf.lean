/-! what class and model share, the findings apart -/
def RelY (σ : St) : Prop := σ 73 = σ 39 ∧ σ 74 = σ 40 ∧ σ 75 = σ 41 ∧ σ 76 = σ 42 ∧ σ 77 = σ 45 ∧ σ 78 = σ 38 ∧ σ 79 = σ 13
/-- the counts, but not that of the told numbers -/
def RelS' (σ : St) : Prop := σ 12 0 = σ 1 3 ∧ σ 12 1 = σ 2 2 ∧ σ 12 2 = σ 2 4 ∧ σ 12 3 = σ 2 8 ∧ σ 12 4 = σ 3 14 ∧ σ 12 5 = σ 4 7 ∧ σ 12 6 = σ 9 3 ∧ σ 12 7 = σ 9 4 ∧ σ 12 8 = σ 3 15 ∧ σ 12 9 = σ 4 1 ∧ True ∧ σ 12 11 = σ 46 0 ∧ σ 12 12 = σ 46 1 ∧ σ 12 13 = σ 46 2
def Wf (σ : St) (v g t m n x s b w : Nat) : Prop := RelS' σ ∧ RelA σ ∧ RelT σ ∧ RelY σ ∧ Cn σ v g t m n x s b w ∧ Dat σ v g t m n s
section
variable {σ : St} {v g t m n x s b w : Nat}
theorem inv_wf (h : Inv σ) : ∃ v g t m n x s b w, Wf σ v g t m n x s b w := by
  obtain ⟨⟨q0, q1, q2, q3, q4, q5, q6, q7, q8, q9, q10, q11⟩, hA, hT, ⟨x1, x2, x3, x4, x5, x6, x7, x8⟩, v, g, t, m, n, x, s, b, w, hC, hD⟩ := h
  exact ⟨v, g, t, m, n, x, s, b, w, ⟨q0, q1, q2, q3, q4, q5, q6, q7, q8, q9, trivial, q11⟩, hA, hT, ⟨x1, x2, x3, x4, x5, x6, x7⟩, hC, hD⟩
theorem wf_inv (H : Wf σ v g t m n x s b w) (h8 : σ 80 = σ 14) (h10 : σ 12 10 = σ 0 12) : Inv σ := by
  obtain ⟨⟨q0, q1, q2, q3, q4, q5, q6, q7, q8, q9, _, q11⟩, hA, hT, ⟨x1, x2, x3, x4, x5, x6, x7⟩, hC, hD⟩ := H
  exact ⟨⟨q0, q1, q2, q3, q4, q5, q6, q7, q8, q9, h10, q11⟩, hA, hT, ⟨x1, x2, x3, x4, x5, x6, x7, h8⟩, v, g, t, m, n, x, s, b, w, hC, hD⟩
theorem inv_8 (h : Inv σ) : σ 80 = σ 14 := h.2.2.2.1.2.2.2.2.2.2.2
theorem inv_10 (h : Inv σ) : σ 12 10 = σ 0 12 := h.1.2.2.2.2.2.2.2.2.2.2.1
theorem Wf.fr {τ : St} (H : Wf σ v g t m n x s b w) (h : Fr σ τ) : Wf τ v g t m n x s b w := by
  have h1 : Wf (msk σ) v g t m n x s b w := H
  rw [← msk_fr h] at h1
  exact h1
theorem Wf.cn (H : Wf σ v g t m n x s b w) : Cn σ v g t m n x s b w := H.2.2.2.2.1
theorem Wf.da (H : Wf σ v g t m n x s b w) : Dat σ v g t m n s := H.2.2.2.2.2
theorem Wf.v1 (H : Wf σ v g t m n x s b w) : σ 1 3 = nI v := H.cn.1.1
theorem Wf.v2 (H : Wf σ v g t m n x s b w) : v ≤ 24 := H.cn.1.2
theorem Wf.g1 (H : Wf σ v g t m n x s b w) : σ 2 2 = nI g := H.cn.2.1.1
theorem Wf.g2 (H : Wf σ v g t m n x s b w) : g ≤ 6 := H.cn.2.1.2
theorem Wf.t1 (H : Wf σ v g t m n x s b w) : σ 2 4 = nI t := H.cn.2.2.1.1
theorem Wf.t2 (H : Wf σ v g t m n x s b w) : t ≤ 8 := H.cn.2.2.1.2
theorem Wf.m1 (H : Wf σ v g t m n x s b w) : σ 2 8 = nI m := H.cn.2.2.2.1.1
theorem Wf.m2 (H : Wf σ v g t m n x s b w) : m ≤ 30 := H.cn.2.2.2.1.2
theorem Wf.n1 (H : Wf σ v g t m n x s b w) : σ 3 14 = nI n := H.cn.2.2.2.2.1.1
theorem Wf.n2 (H : Wf σ v g t m n x s b w) : n ≤ 80 := H.cn.2.2.2.2.1.2
theorem Wf.x1 (H : Wf σ v g t m n x s b w) : σ 4 7 = nI x := H.cn.2.2.2.2.2.1.1
theorem Wf.x2 (H : Wf σ v g t m n x s b w) : x ≤ 6 := H.cn.2.2.2.2.2.1.2
theorem Wf.s1 (H : Wf σ v g t m n x s b w) : σ 9 3 = nI s := H.cn.2.2.2.2.2.2.1.1
theorem Wf.s2 (H : Wf σ v g t m n x s b w) : s ≤ 6 := H.cn.2.2.2.2.2.2.1.2
theorem Wf.b1 (H : Wf σ v g t m n x s b w) : σ 4 1 = nI b := H.cn.2.2.2.2.2.2.2.1.1
theorem Wf.b2 (H : Wf σ v g t m n x s b w) : b ≤ 60 := H.cn.2.2.2.2.2.2.2.1.2
theorem Wf.w1 (H : Wf σ v g t m n x s b w) : σ 0 12 = nI w := H.cn.2.2.2.2.2.2.2.2.1
theorem Wf.w2 (H : Wf σ v g t m n x s b w) : w ≤ 8 := H.cn.2.2.2.2.2.2.2.2.2
theorem Wf.mv (H : Wf σ v g t m n x s b w) : σ 12 0 = nI v := H.1.1.trans H.v1
theorem Wf.mg (H : Wf σ v g t m n x s b w) : σ 12 1 = nI g := H.1.2.1.trans H.g1
theorem Wf.mt (H : Wf σ v g t m n x s b w) : σ 12 2 = nI t := H.1.2.2.1.trans H.t1
theorem Wf.mm (H : Wf σ v g t m n x s b w) : σ 12 3 = nI m := H.1.2.2.2.1.trans H.m1
theorem Wf.mn (H : Wf σ v g t m n x s b w) : σ 12 4 = nI n := H.1.2.2.2.2.1.trans H.n1
theorem Wf.mx (H : Wf σ v g t m n x s b w) : σ 12 5 = nI x := H.1.2.2.2.2.2.1.trans H.x1
theorem Wf.ms (H : Wf σ v g t m n x s b w) : σ 12 6 = nI s := H.1.2.2.2.2.2.2.1.trans H.s1
theorem Wf.mvis (H : Wf σ v g t m n x s b w) : σ 12 7 = σ 9 4 := H.1.2.2.2.2.2.2.2.1
theorem Wf.mdr (H : Wf σ v g t m n x s b w) : σ 12 8 = σ 3 15 := H.1.2.2.2.2.2.2.2.2.1
theorem Wf.mtb (H : Wf σ v g t m n x s b w) : σ 12 9 = nI b := H.1.2.2.2.2.2.2.2.2.2.1.trans H.b1
theorem Wf.r0 (H : Wf σ v g t m n x s b w) : σ 12 11 = σ 46 0 := H.1.2.2.2.2.2.2.2.2.2.2.2.1
theorem Wf.r1 (H : Wf σ v g t m n x s b w) : σ 12 12 = σ 46 1 := H.1.2.2.2.2.2.2.2.2.2.2.2.2.1
theorem Wf.r2 (H : Wf σ v g t m n x s b w) : σ 12 13 = σ 46 2 := H.1.2.2.2.2.2.2.2.2.2.2.2.2.2
theorem Wf.a50 (H : Wf σ v g t m n x s b w) : σ 50 = σ 15 := H.2.1.1
theorem Wf.a51 (H : Wf σ v g t m n x s b w) : σ 51 = σ 16 := H.2.1.2.1
theorem Wf.a52 (H : Wf σ v g t m n x s b w) : σ 52 = σ 17 := H.2.1.2.2.1
theorem Wf.a53 (H : Wf σ v g t m n x s b w) : σ 53 = σ 18 := H.2.1.2.2.2.1
theorem Wf.a54 (H : Wf σ v g t m n x s b w) : σ 54 = σ 19 := H.2.1.2.2.2.2.1
theorem Wf.a55 (H : Wf σ v g t m n x s b w) : σ 55 = σ 20 := H.2.1.2.2.2.2.2.1
theorem Wf.a56 (H : Wf σ v g t m n x s b w) : σ 56 = σ 21 := H.2.1.2.2.2.2.2.2.1
theorem Wf.a57 (H : Wf σ v g t m n x s b w) : σ 57 = σ 22 := H.2.1.2.2.2.2.2.2.2.1
theorem Wf.a58 (H : Wf σ v g t m n x s b w) : σ 58 = σ 23 := H.2.1.2.2.2.2.2.2.2.2
theorem Wf.a59 (H : Wf σ v g t m n x s b w) : σ 59 = σ 24 := H.2.2.1.1
theorem Wf.a60 (H : Wf σ v g t m n x s b w) : σ 60 = σ 25 := H.2.2.1.2.1
theorem Wf.a61 (H : Wf σ v g t m n x s b w) : σ 61 = σ 26 := H.2.2.1.2.2.1
theorem Wf.a62 (H : Wf σ v g t m n x s b w) : σ 62 = σ 27 := H.2.2.1.2.2.2.1
theorem Wf.a63 (H : Wf σ v g t m n x s b w) : σ 63 = σ 28 := H.2.2.1.2.2.2.2.1
theorem Wf.a64 (H : Wf σ v g t m n x s b w) : σ 64 = σ 29 := H.2.2.1.2.2.2.2.2.1
theorem Wf.a65 (H : Wf σ v g t m n x s b w) : σ 65 = σ 30 := H.2.2.1.2.2.2.2.2.2.1
theorem Wf.a66 (H : Wf σ v g t m n x s b w) : σ 66 = σ 31 := H.2.2.1.2.2.2.2.2.2.2.1
theorem Wf.a67 (H : Wf σ v g t m n x s b w) : σ 67 = σ 32 := H.2.2.1.2.2.2.2.2.2.2.2.1
theorem Wf.a69 (H : Wf σ v g t m n x s b w) : σ 69 = σ 36 := H.2.2.1.2.2.2.2.2.2.2.2.2.1
theorem Wf.a70 (H : Wf σ v g t m n x s b w) : σ 70 = σ 33 := H.2.2.1.2.2.2.2.2.2.2.2.2.2.1
theorem Wf.a71 (H : Wf σ v g t m n x s b w) : σ 71 = σ 34 := H.2.2.1.2.2.2.2.2.2.2.2.2.2.2.1
theorem Wf.a72 (H : Wf σ v g t m n x s b w) : σ 72 = σ 37 := H.2.2.1.2.2.2.2.2.2.2.2.2.2.2.2
theorem Wf.a73 (H : Wf σ v g t m n x s b w) : σ 73 = σ 39 := H.2.2.2.1.1
theorem Wf.a74 (H : Wf σ v g t m n x s b w) : σ 74 = σ 40 := H.2.2.2.1.2.1
theorem Wf.a75 (H : Wf σ v g t m n x s b w) : σ 75 = σ 41 := H.2.2.2.1.2.2.1
theorem Wf.a76 (H : Wf σ v g t m n x s b w) : σ 76 = σ 42 := H.2.2.2.1.2.2.2.1
theorem Wf.a77 (H : Wf σ v g t m n x s b w) : σ 77 = σ 45 := H.2.2.2.1.2.2.2.2.1
theorem Wf.a78 (H : Wf σ v g t m n x s b w) : σ 78 = σ 38 := H.2.2.2.1.2.2.2.2.2.1
theorem Wf.a79 (H : Wf σ v g t m n x s b w) : σ 79 = σ 13 := H.2.2.2.1.2.2.2.2.2.2
theorem Wf.dv (H : Wf σ v g t m n x s b w) : DV (σ 15) (σ 16) (σ 17) v := H.da.1
theorem Wf.dg (H : Wf σ v g t m n x s b w) : DG (σ 20) (σ 21) (σ 22) (σ 23) g t m := H.da.2.1
theorem Wf.dt (H : Wf σ v g t m n x s b w) : DT σ v t n s := H.da.2.2.1
theorem Wf.dz (H : Wf σ v g t m n x s b w) : DZ (σ 34) (σ 35) (σ 36) (σ 37) n := H.da.2.2.2.1
theorem Wf.df (H : Wf σ v g t m n x s b w) : ∀ i, rg (σ 42 i) 256 := H.da.2.2.2.2.1
theorem Wf.ds (H : Wf σ v g t m n x s b w) : DS (σ 45) s := H.da.2.2.2.2.2.1
theorem Wf.dru (H : Wf σ v g t m n x s b w) : DR (σ 46) := H.da.2.2.2.2.2.2.1
theorem Wf.dp (H : Wf σ v g t m n x s b w) : ∀ j, 64 * s ≤ j → σ 49 j = 0 := H.da.2.2.2.2.2.2.2.1
theorem Wf.dn (H : Wf σ v g t m n x s b w) : σ 3 15 = nI (dr (σ 36) n) := H.da.2.2.2.2.2.2.2.2
theorem Wf.i24 (H : Wf σ v g t m n x s b w) {i : Nat} (hi : i < n) : rg (σ 24 i) v := (H.dt i hi).1.1
theorem Wf.i25 (H : Wf σ v g t m n x s b w) {i : Nat} (hi : i < n) : rg (σ 25 i) t := (H.dt i hi).1.2.1
theorem Wf.i26 (H : Wf σ v g t m n x s b w) {i : Nat} (hi : i < n) : rg (σ 26 i) 10000 := (H.dt i hi).1.2.2.1
theorem Wf.i27 (H : Wf σ v g t m n x s b w) {i : Nat} (hi : i < n) : rg (σ 27 i) 1440 := (H.dt i hi).1.2.2.2.1
theorem Wf.i28 (H : Wf σ v g t m n x s b w) {i : Nat} (hi : i < n) : rg (σ 28 i) 241 := (H.dt i hi).1.2.2.2.2.1
theorem Wf.i29 (H : Wf σ v g t m n x s b w) {i : Nat} (hi : i < n) : rg (σ 29 i) 1000000 := (H.dt i hi).1.2.2.2.2.2
theorem Wf.i30 (H : Wf σ v g t m n x s b w) {i : Nat} (hi : i < n) : rg (σ 30 i) 1000 := (H.dt i hi).2.1.1
theorem Wf.i31 (H : Wf σ v g t m n x s b w) {i : Nat} (hi : i < n) : rg (σ 31 i) 1000 := (H.dt i hi).2.1.2.1
theorem Wf.i32 (H : Wf σ v g t m n x s b w) {i : Nat} (hi : i < n) : rg (σ 32 i) 256 := (H.dt i hi).2.1.2.2.1
theorem Wf.i33 (H : Wf σ v g t m n x s b w) {i : Nat} (hi : i < n) : rg (σ 33 i) 2 := (H.dt i hi).2.1.2.2.2
theorem Wf.i35 (H : Wf σ v g t m n x s b w) {i : Nat} (hi : i < n) : rg (σ 35 i) (s + 1) := (H.dt i hi).2.2.1
theorem Wf.i68 (H : Wf σ v g t m n x s b w) {i : Nat} (hi : i < n) : σ 68 i = σ 35 i - 1 := (H.dt i hi).2.2.2
/-- the place of a test's vehicle -/
theorem Wf.iv (H : Wf σ v g t m n x s b w) {i : Nat} (hi : i < n) : (σ 24 i).toNatClampNeg < v ∧ vp_in (σ 24 i) 24 := by
  have h := H.i24 hi
  have h2 := H.v2
  obtain ⟨j, hj, e⟩ := rg_of h (by omega)
  refine ⟨?_, vp_le h h2⟩
  rw [e, nI_cl (by omega)]
  exact hj
theorem Wf.ik (H : Wf σ v g t m n x s b w) {i : Nat} (hi : i < n) : rg (σ 15 (σ 24 i).toNatClampNeg) 4 := (H.dv _ (H.iv hi).1).1
theorem Wf.i80 (H : Wf σ v g t m n x s b w) {i : Nat} (hi : i < n) : vp_in (nI i) 80 := vp_in_nI (by have := H.n2; omega) (by omega)
theorem Wf.icl (H : Wf σ v g t m n x s b w) {i : Nat} (hi : i < n) : (nI i).toNatClampNeg = i := nI_cl (by have := H.n2; omega)
theorem Wf.q1n (H : Wf σ v g t m n x s b w) (a : Int32) : sp_1 a (σ 3 14) σ = rt (bI (rg a n)) σ := by rw [H.n1]; exact e1 a (by have := H.n2; omega) σ
theorem Wf.q1v (H : Wf σ v g t m n x s b w) (a : Int32) : sp_1 a (σ 1 3) σ = rt (bI (rg a v)) σ := by rw [H.v1]; exact e1 a (by have := H.v2; omega) σ
theorem Wf.q1g (H : Wf σ v g t m n x s b w) (a : Int32) : sp_1 a (σ 2 2) σ = rt (bI (rg a g)) σ := by rw [H.g1]; exact e1 a (by have := H.g2; omega) σ
theorem Wf.q1t (H : Wf σ v g t m n x s b w) (a : Int32) : sp_1 a (σ 2 4) σ = rt (bI (rg a t)) σ := by rw [H.t1]; exact e1 a (by have := H.t2; omega) σ
theorem Wf.q1s (H : Wf σ v g t m n x s b w) (a : Int32) : sp_1 a (σ 9 3) σ = rt (bI (rg a s)) σ := by rw [H.s1]; exact e1 a (by have := H.s2; omega) σ
theorem Wf.qn (H : Wf σ v g t m n x s b w) (a : Int32) : sp_140 a σ = rt (bI (rg a n)) σ := e140 H.mn H.n2 a
theorem Wf.qt (H : Wf σ v g t m n x s b w) (a : Int32) : sp_134 a σ = rt (bI (rg a t)) σ := e134 H.mt H.t2 a
theorem Wf.qg (H : Wf σ v g t m n x s b w) (a : Int32) : sp_132 a σ = rt (bI (rg a g)) σ := e132 H.mg H.g2 a
theorem Wf.qv (H : Wf σ v g t m n x s b w) (a : Int32) : sp_127 a σ = rt (bI (rg a v)) σ := e127 H.mv H.v2 a
theorem Wf.qs (H : Wf σ v g t m n x s b w) (a : Int32) : sp_123 a 0 (σ 12 6 - 1) σ = rt (bI (rg a s)) σ := by rw [H.ms]; exact e123c a (by have := H.s2; omega) σ
theorem Wf.ft (H : Wf σ v g t m n x s b w) (k : Nat) : Wf (fT k σ) v g t m n x s b w := H
end
theorem if_bI {α : Type} {p : Prop} [Decidable p] (h : p) (A B : α) : (if bI p = 0 then A else B) = B := by rw [bI_i0, if_pos h]
/-- a query whose one check fails -/
theorem p2_b1 {σ : St} (hI : Inv σ) {tT : MR} {tM : St → MR} (h1 : tT = rt (-1000001) (fT 1 σ)) (h2 : tM (fT 1 σ) = rt (-1000001) (fM 1 (fT 1 σ))) : P2 tT tM Inv := P2_of h1 h2 (inv_find hI 1)
theorem p2_b2 {σ : St} (hI : Inv σ) {tT : MR} {tM : St → MR} (h1 : tT = rt (-1000002) (fT 2 σ)) (h2 : tM (fT 2 σ) = rt (-1000002) (fM 2 (fT 2 σ))) : P2 tT tM Inv := P2_of h1 h2 (inv_find hI 2)
theorem p2_b3 {σ : St} (hI : Inv σ) {tT : MR} {tM : St → MR} (h1 : tT = rt (-1000003) (fT 3 σ)) (h2 : tM (fT 3 σ) = rt (-1000003) (fM 3 (fT 3 σ))) : P2 tT tM Inv := P2_of h1 h2 (inv_find hI 3)
theorem p2_b4 {σ : St} (hI : Inv σ) {tT : MR} {tM : St → MR} (h1 : tT = rt (-1000004) (fT 4 σ)) (h2 : tM (fT 4 σ) = rt (-1000004) (fM 4 (fT 4 σ))) : P2 tT tM Inv := P2_of h1 h2 (inv_find hI 4)
theorem p2_b5 {σ : St} (hI : Inv σ) {tT : MR} {tM : St → MR} (h1 : tT = rt (-1000005) (fT 5 σ)) (h2 : tM (fT 5 σ) = rt (-1000005) (fM 5 (fT 5 σ))) : P2 tT tM Inv := P2_of h1 h2 (inv_find hI 5)
