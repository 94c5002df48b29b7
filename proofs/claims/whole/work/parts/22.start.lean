/-! what is known at the law's entry -/
theorem tb_tbl {w : Cond} (h : w ∈ TB) : w ∈ lw_tbl := (List.mem_filter.mp h).1
theorem known_all {s : State} {args : Array Value} (hts : ∀ w ∈ lw_tbl, w.before args s = true) : ∃ (dC : Nat → ClassId) (dI : Nat → Nat → Nat), ∀ (k : Nat) (q : vw_C), cls[k]? = some q → u_Kn s q.1 q.2.1 q.2.2 (dC k) (dI k) := by
  have h : ∀ c, ∃ q : ClassId × (Nat → Nat), c < 13 → u_Kn s (cn c) (FT c) (NF c) q.1 q.2 := by
    intro c
    by_cases hc : c < 13
    · obtain ⟨cC, iS, hK⟩ := u_known (C := cn c) (T := FT c) (N := NF c) (n := NF c) hts (fun w hw => tb_tbl (u_in hc w hw)) (hts _ (List.mem_of_getElem? (of_decide_eq_true (all_rg inl_ok hc))))
      exact ⟨(cC, iS), fun _ => hK⟩
    · exact ⟨(0, fun _ => 0), fun z => absurd z hc⟩
  refine ⟨fun c => (Classical.choose (h c)).1, fun c => (Classical.choose (h c)).2, ?_⟩
  intro k q hq
  have hk : k < 13 := by
    have := (List.getElem?_eq_some_iff.mp hq).1
    simpa [cls] using this
  rw [cls_at hk] at hq
  cases hq
  exact Classical.choose_spec (h k) hk
theorem arr_known {s : State} {args : Array Value} {ty : FieldType} (hty : ty = .int ∨ ty = .boolean) (h : (Cond.arrayClass ty).before args s = true) : ∃ cA : ClassId, ArrOfT s cA ty ∧ va_RA s cA ty := by
  obtain ⟨cA, kA, comp, h1, h2, h3⟩ := Cond.arrayClass_spec h
  refine ⟨cA, fun n z => ⟨fun k h => (by cases h), kA, h2, comp, h3⟩, ?_⟩
  rcases hty with rfl | rfl
  · exact h1
  · exact h1
set_option maxRecDepth 100000 in
theorem nest_ok : lw_tbl[511]? = some nwF0 ∧ lw_tbl[708]? = some nwF1 ∧ lw_tbl[636]? = some nwM0 ∧ lw_tbl[826]? = some nwM1 := by decide +kernel
set_option maxRecDepth 100000 in
theorem nwc_ok : (knt.all fun q => lw_tbl.any fun w => decide (w = .methodLinkNest (cn 0) q.1 (cY q.2) "TradeTests")) = true := by decide +kernel
set_option maxRecDepth 100000 in
theorem lst_ok : lw_tbl[512]? = some (.laysStatic (sC 0) (sM 0) "[I") ∧ lw_tbl[709]? = some (.laysStatic (sC 1) (sM 1) "[I") ∧ lw_tbl[828]? = some (.laysStatic (sC 2) (sM 2) "[I") := by decide +kernel
theorem start_nws {s : State} {args : Array Value} (hts : ∀ w ∈ lw_tbl, w.before args s = true) : Nws s := ⟨va_Nw.of rfl (hts _ (List.mem_of_getElem? nest_ok.1)), va_Nw.of rfl (hts _ (List.mem_of_getElem? nest_ok.2.1)), va_Nw.of rfl (hts _ (List.mem_of_getElem? nest_ok.2.2.1)), va_Nw.of rfl (hts _ (List.mem_of_getElem? nest_ok.2.2.2))⟩
theorem start_nwc {s : State} {args : Array Value} (hts : ∀ w ∈ lw_tbl, w.before args s = true) : NwC s := by
  intro q hq
  obtain ⟨w, hw, h⟩ := List.any_eq_true.mp (List.all_eq_true.mp nwc_ok q hq)
  obtain rfl := of_decide_eq_true h
  exact va_Nw.of rfl (hts _ hw)
/-- a static array of the start -/
theorem start_st {s : State} {args : Array Value} {j N : Nat} (hN : N < 2 ^ 31) (hl : (Cond.laysStatic (sC j) (sM j) "[I").before args s = true) (hini : (Cond.initialized (sC j)).before args s = true) (harr : (Cond.arrayOf (.static (sC j) (sM j) "[I") .int).before args s = true) (hlen : (Cond.eq (.length (.static (sC j) (sM j) "[I")) (.int (Int32.ofNat N))).before args s = true) (hel : ∀ i, i < N → (Cond.eq (.elem (.static (sC j) (sM j) "[I") (.int (Int32.ofNat i))) (.int ((sV j).getD i 0))).before args s = true) :
    ∃ t : Nat, va_Z (sC j) (sM j) "[I" (.ref t) (fun q => s.heap.size ≤ q) s s.heap ∧ va_T .int t N (fun i => .int ((sV j).getD i 0)) (fun q => s.heap.size ≤ q) s s.heap := by
  have hA : ∀ a : Nat, a < s.heap.size → ¬ (fun q : Nat => s.heap.size ≤ q) a := fun a h => Nat.not_le.mpr h
  obtain ⟨t, h1, h2⟩ := va_Tof (f := fun i => .int ((sV j).getD i 0)) hN harr (va_eqt hlen) (fun i hi => va_eqt (hel i hi)) hA
  exact ⟨t, va_Zof hl hini h1 hA, h2⟩
theorem start_sts {s : State} {args : Array Value} (hts : ∀ w ∈ lw_tbl, w.before args s = true) (hgv : (Jvm.Cond.and given_1 narrow_1).before args s = true) : ∃ t0 t1 t2 : Nat, (va_Z (sC 0) (sM 0) "[I" (.ref t0) (fun q => s.heap.size ≤ q) s s.heap ∧ va_T .int t0 4 (fun i => .int ((sV 0).getD i 0)) (fun q => s.heap.size ≤ q) s s.heap) ∧ (va_Z (sC 1) (sM 1) "[I" (.ref t1) (fun q => s.heap.size ≤ q) s s.heap ∧ va_T .int t1 4 (fun i => .int ((sV 1).getD i 0)) (fun q => s.heap.size ≤ q) s s.heap) ∧ (va_Z (sC 2) (sM 2) "[I" (.ref t2) (fun q => s.heap.size ≤ q) s s.heap ∧ va_T .int t2 3 (fun i => .int ((sV 2).getD i 0)) (fun q => s.heap.size ≤ q) s s.heap) := by
  have hs := flat_of_before _ hgv
  have h0 := start_st (j := 0) (N := 4) (by omega) (hts _ (List.mem_of_getElem? lst_ok.1)) (hts _ (tb_tbl (in_ini (o := 0) (by omega)))) (hs _ (by decide +kernel)) (hs _ (by decide +kernel)) (fun i hi => by
    rcases (show i = 0 ∨ i = 1 ∨ i = 2 ∨ i = 3 by omega) with rfl | rfl | rfl | rfl <;> exact hs _ (by decide +kernel))
  have h1 := start_st (j := 1) (N := 4) (by omega) (hts _ (List.mem_of_getElem? lst_ok.2.1)) (hts _ (tb_tbl (in_ini (o := 0) (by omega)))) (hs _ (by decide +kernel)) (hs _ (by decide +kernel)) (fun i hi => by
    rcases (show i = 0 ∨ i = 1 ∨ i = 2 ∨ i = 3 by omega) with rfl | rfl | rfl | rfl <;> exact hs _ (by decide +kernel))
  have h2 := start_st (j := 2) (N := 3) (by omega) (hts _ (List.mem_of_getElem? lst_ok.2.2)) (hts _ (tb_tbl (in_ini (o := 10) (by omega)))) (hs _ (by decide +kernel)) (hs _ (by decide +kernel)) (fun i hi => by
    rcases (show i = 0 ∨ i = 1 ∨ i = 2 by omega) with rfl | rfl | rfl <;> exact hs _ (by decide +kernel))
  obtain ⟨t0, z0⟩ := h0
  obtain ⟨t1, z1⟩ := h1
  obtain ⟨t2, z2⟩ := h2
  exact ⟨t0, t1, t2, z0, z1, z2⟩
theorem start_scr {s : State} {b L : Nat} {xs : Nat → Int32} (hX : va_X b L xs s s.heap) (hbl : b < s.heap.size) : va_T .int b L (fun j => .int (xs j)) (fun q => s.heap.size ≤ q) s s.heap := by
  obtain ⟨scr, h1, h2, h3, h4, h5⟩ := hX
  exact ⟨scr, h1, h2, h3, by omega, by rw [h4], h5, Nat.not_le.mpr hbl⟩
set_option maxRecDepth 100000 in
theorem dep_law : (cd_law.all (dpOk dep 9)) = true := by decide +kernel
theorem dl_0 : decode code 0 = .ok (.new 7, 3) := by decide +kernel
theorem dl_3 : decode code 3 = .ok (.dup, 1) := by decide +kernel
theorem dl_4 : decode code 4 = .ok (.invokespecial 9, 3) := by decide +kernel
theorem dl_7 : decode code 7 = .ok (.astore_n 1, 1) := by decide +kernel
theorem dl_8 : decode code 8 = .ok (.new 10, 3) := by decide +kernel
theorem dl_11 : decode code 11 = .ok (.dup, 1) := by decide +kernel
theorem dl_12 : decode code 12 = .ok (.invokespecial 12, 3) := by decide +kernel
theorem dl_15 : decode code 15 = .ok (.astore_n 2, 1) := by decide +kernel
set_option maxRecDepth 100000 in
theorem law_cl : clt.any (fun q => decide (q.1 = 13 ∧ q.2.1 = 7 ∧ q.2.2.1 = 0)) = true ∧ clt.any (fun q => decide (q.1 = 13 ∧ q.2.1 = 10 ∧ q.2.2.1 = 12)) = true ∧ kit.any (fun q => decide (q.1 = 13 ∧ q.2.1 = 9 ∧ q.2.2.1 = 0)) = true ∧ kit.any (fun q => decide (q.1 = 13 ∧ q.2.1 = 12 ∧ q.2.2.1 = 12)) = true := by decide +kernel
set_option maxRecDepth 100000 in
theorem ef_sz : EF1.length = 49 ∧ eSz EF1 = 2110 ∧ EF2.length = 85 ∧ eSz EF2 = 4161 ∧ okEs 49 EF1 = true ∧ NF 0 = 14 ∧ NF 12 = 50 := by decide +kernel
/-- the pure statement that is left -/
def PureLaw : Prop := ∀ (L : Nat) (xs : Nat → Int32), L ≤ 3072 → Ex (L, xs) CC 2 cd_law (fun r _ => r = 1) 16 [some (.ref 1003), some (.ref 0), some (.ref 12), none] [] σ0
