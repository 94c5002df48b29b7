/-! a step of the machine of constructors is a step of the machine -/
set_option maxRecDepth 100000 in
theorem arc_ok : lw_tbl[111]? = some (.arrayClass .int) ∧ lw_tbl[1158]? = some (.arrayClass .boolean) := by decide +kernel
set_option maxRecDepth 100000 in
theorem dfl_ok : ((List.range 13).all fun c => (List.range (NF c)).all fun j => eqV (defaultValue (fty c j)) ((dfl c).getD j .null) && okR 0 ((dfl c).getD j .null)) = true := by decide +kernel
theorem dfl_len (c : Nat) : (dfl c).length = NF c := by simp [dfl, NF]
theorem cv_ok0 {ad : Nat → Nat} {v : Value} (h : okR 0 v = true) : cv ad v = v := by
  cases v <;> first | rfl | skip
  exact absurd (Nat.le_of_ble_eq_true h) (by omega)
theorem dfl_at {ad : Nat → Nat} {c : Nat} (hc : c < 13) : ∀ j, j < NF c → defaultValue (fty c j) = vp_V ((dfl c).map (cv ad)) j := by
  intro j hj
  have h := all_rg (all_rg dfl_ok hc) hj
  simp only [Bool.and_eq_true] at h
  have h1 := eqV_ok h.1
  have h2 := cv_ok0 (ad := ad) h.2
  unfold vp_V
  rw [List.getD_eq_getElem?_getD, List.getElem?_map, h1]
  rw [List.getD_eq_getElem?_getD] at h2 ⊢
  cases hx : (dfl c)[j]? with
  | none => rfl
  | some x => rw [hx] at h2; exact h2.symm
def wkC (j : Nat) : List Cond := .code (cY j) (cB j) (cL j) none :: TB
theorem ct_spec {j : Nat} (h : j < 13) : plainName (cY j).cls = true ∧ ((cY j).cls ≠ "java/lang/invoke/MethodHandle" ∧ (cY j).cls ≠ "java/lang/invoke/VarHandle") ∧ (parseMethodDescriptor (cY j).desc).map (fun d => d.parameters.length + 1) = some (cA j) ∧ cA j ≤ cL j ∧ cL j ≤ 9 ∧ Cond.code (cY j) (cB j) (cL j) none ∈ TB ∧ Cond.instanceMethod (cY j) ∈ TB := by
  have q := all_rg ctOk_all h
  unfold ctOk at q
  simp only [Bool.and_eq_true, decide_eq_true_eq] at q
  obtain ⟨⟨⟨⟨⟨⟨⟨q1, q2⟩, q3⟩, q4⟩, q5⟩, q6⟩, q7⟩, q8⟩ := q
  exact ⟨q1, ⟨q2, q3⟩, q4, q5, q6, tb_of q7 rfl, tb_of q8 rfl⟩
theorem wkC_good {j : Nat} (h : j < 13) : GoodIn TB (wkC j) := by
  intro w hw
  rcases List.mem_cons.mp hw with rfl | hw
  · exact tb_good _ (ct_spec h).2.2.2.2.2.1
  · exact tb_good _ hw
def rmC (d mc ms : Nat) : Room := { frames := d, cells := mc, slots := ms, locals := 28 * d }
def MetC (l : Launch) (dC : Nat → ClassId) (dI : Nat → Nat → Nat) (cI cZ : ClassId) (j d : Nat) (as : List Value) (E E' : List PE) : Prop :=
  ∀ (ad : Nat → Nat) (sz : Nat), Met l (cY j) (wkC j) (rmC d (E'.length - E.length) (eSz E' - eSz E)) (va_Pc (as.map (cv ad)) (fun U => U.heap.size = sz ∧ va_P (dC, dI) cls (wE cI cZ ad E) U.heap ∧ va_K (dC, dI) cls [(cI, .int), (cZ, .boolean)] U ∧ va_D (fun _ => True) (wE cI cZ ad E) ∧ NwC U))
    (va_Qv (fun ad' : Nat → Nat => ∀ i, i < E.length → ad' i = ad i) (fun ad' t => va_P (dC, dI) cls (wE cI cZ ad' E') t.heap ∧ va_D (va_A (wE cI cZ ad E) sz) (wE cI cZ ad' E')) (va_A (wE cI cZ ad E) sz)) (E'.length - E.length) (eSz E' - eSz E) (va_A (wE cI cZ ad E) sz)
def FrC (p : Program) (R : Room) (s : State) (m : MethodId) (args : Array Value) (meth : Method) (c : Code) (own nL : Nat) (cc : ByteArray) (dC : Nat → ClassId) (dI : Nat → Nat → Nat) (cI cZ : ClassId) (A : Nat → Prop) (d : Nat) : Prop :=
  p.tables.exec = Jvm.exec ∧ c.code = cc ∧ c.maxLocals = nL ∧ s.vm.findClass (cn own) = some m.cls ∧ (∀ w ∈ TB, w.before args s = true) ∧ va_K (dC, dI) cls [(cI, .int), (cZ, .boolean)] s ∧ NwC s ∧ (∀ q, s.heap.size ≤ q → A q) ∧ d + 1 ≤ R.frames ∧ 28 * (d + 1) ≤ R.locals ∧ (own < 13 → meth.name = "<init>")
def XC (p : Program) (l : Launch) (e : Env) (R : Room) (s : State) (m : MethodId) (args : Array Value) (below : List Frame) (meth : Method) (c : Code) (dC : Nat → ClassId) (dI : Nat → Nat → Nat) (cI cZ : ClassId) (A : Nat → Prop) (n0 s0 : Nat) (QQ : State → Prop) (nL pc : Nat) (lv : LV) (st : List Value) (E : List PE) (ad : Nat → Nat) : Prop :=
  ∀ (H : Heap) (locs : List Loc) (ls : Array Slot), va_P (dC, dI) cls (wE cI cZ ad E) H → va_D A (wE cI cZ ad E) → va_S A s.heap H locs → LH ad nL ls lv → W p l e R s m args below meth c H locs (E.length - n0) (eSz E - s0) QQ (F0 m pc ls (st.map (cv ad)))
theorem in_cl {own i a : Nat} (h : clt.any (fun q => decide (q.1 = own ∧ q.2.1 = i ∧ q.2.2.1 = a)) = true) : Cond.classLink (cn own) i (cn a) ∈ TB ∧ a < 13 := by
  obtain ⟨q, hq, h2⟩ := List.any_eq_true.mp h
  obtain ⟨rfl, rfl, rfl⟩ := of_decide_eq_true h2
  have h3 := List.all_eq_true.mp clt_ok q hq
  simp only [Bool.and_eq_true, decide_eq_true_eq] at h3
  exact ⟨tb_of h3.1 rfl, h3.2⟩
theorem in_oi {own i : Nat} (h : oit.any (fun q => decide (q.1 = own ∧ q.2.1 = i)) = true) : Cond.methodLink (cn own) i Lib.objectInit ∈ TB := by
  obtain ⟨q, hq, h2⟩ := List.any_eq_true.mp h
  obtain ⟨rfl, rfl⟩ := of_decide_eq_true h2
  exact tb_of (of_decide_eq_true (List.all_eq_true.mp oit_ok q hq)) rfl
theorem in_ki {own i a : Nat} (h : kit.any (fun q => decide (q.1 = own ∧ q.2.1 = i ∧ q.2.2.1 = a)) = true) : Cond.methodLink (cn own) i (cY a) ∈ TB := by
  obtain ⟨q, hq, h2⟩ := List.any_eq_true.mp h
  obtain ⟨rfl, rfl, rfl⟩ := of_decide_eq_true h2
  exact tb_of (of_decide_eq_true (List.all_eq_true.mp kit_ok q hq)) rfl
section CSN
variable {p : Program} {l : Launch} {e : Env} {R : Room} {s : State} {m : MethodId} {args : Array Value} {below : List Frame} {meth : Method} {c : Code} {own nL : Nat} {cc : ByteArray} {dC : Nat → ClassId} {dI : Nat → Nat → Nat} {cI cZ : ClassId} {A : Nat → Prop} {d0 : Nat} {QQ : State → Prop} {n0 s0 L1 S1 : Nat} {sub : Nat → List Value → List PE → Option (List PE)}
set_option maxHeartbeats 2000000 in
theorem call_c (F : FrC p R s m args meth c own nL cc dC dI cI cZ A d0) {j i b : Nat} (hj : j < 13) (hb2 : b = cA j) (hlk : kit.any (fun q => decide (q.1 = own ∧ q.2.1 = i ∧ q.2.2.1 = j)) = true ∨ va_Nw (.methodLinkNest (cn own) i (cY j) "TradeTests") s)
    {pc : Nat} {lv : LV} {st : List Value} {E E' : List PE} (hM : MetC l dC dI cI cZ j d0 (st.take b).reverse E E') (hbl : b ≤ st.length) (hcat : cats (st.drop b) ≤ 8) (hrf : ((st.take b).reverse).head? ≠ none) (hr0 : ∃ x as', (st.take b).reverse = Value.ref x :: as')
    (hE : okEs E.length E = true) (hlv : okLV E.length lv = true) (hst : st.all (okR E.length) = true) (h1 : n0 ≤ E.length) (h2 : s0 ≤ eSz E) (h3 : E.length ≤ E'.length) (h4 : eSz E ≤ eSz E') (h5 : E'.length - n0 ≤ R.cells) (h6 : eSz E' - s0 ≤ R.slots) (hdg : decode cc pc = .ok (.invokespecial i, 3))
    {ad : Nat → Nat} (kk : ∀ ad' : Nat → Nat, (∀ i, i < E.length → ad' i = ad i) → XC p l e R s m args below meth c dC dI cI cZ A n0 s0 QQ nL (pc + 3) lv (st.drop b) E' ad') : XC p l e R s m args below meth c dC dI cI cZ A n0 s0 QQ nL pc lv st E ad := by
  obtain ⟨hx, hbb, hmx, hown, hts, hK, hNw, hA, hR1, hR2, hin⟩ := F
  intro H locs ls hP hD hS hL
  obtain ⟨hpl, hy, hpar, hcl, hcl9, hcode, hinst⟩ := ct_spec hj
  obtain ⟨x, as', has⟩ := hr0
  have hstd : st = (st.take b).reverse.reverse ++ st.drop b := by rw [List.reverse_reverse]; exact (List.take_append_drop _ _).symm
  have hal : (st.take b).reverse.length = cA j := by rw [List.length_reverse, List.length_take]; omega
  rw [has] at hM hal hstd
  have hstk : st.map (cv ad) = (as'.map (cv ad)).reverse ++ .ref (ad x) :: (st.drop b).map (cv ad) := by
    have := congrArg (List.map (cv ad)) hstd
    rw [this, List.reverse_cons, List.map_append, List.map_append, List.map_reverse, List.append_assoc]
    rfl
  have hpar2 : (parseMethodDescriptor (cY j).desc).map (fun d => d.parameters.length) = some ((as'.map (cv ad)).length) := by
    cases hpd : parseMethodDescriptor (cY j).desc with
    | none => rw [hpd] at hpar; cases hpar
    | some dd =>
      rw [hpd] at hpar
      simp only [Option.map_some, Option.some.injEq, List.length_map] at hpar ⊢
      simp at hal
      omega
  have hDT : va_D (fun _ => True) (wE cI cZ ad E) := hD.weaken (fun _ _ _ _ => trivial)
  have hfr : ∀ q, va_A (wE cI cZ ad E) H.size q → A q := by
    intro q hq
    rcases hq with ⟨k, e, hq⟩ | hq
    · exact hD.2 k _ hq
    · exact hA q (Nat.le_trans hS.1 hq)
  have hMk := hM ad H.size
  have hpre : ∀ U : State, U.heap = H → s.WarmedH U.vm → va_Pc ((Value.ref x :: as').map (cv ad)) (fun U => U.heap.size = H.size ∧ va_P (dC, dI) cls (wE cI cZ ad E) U.heap ∧ va_K (dC, dI) cls [(cI, .int), (cZ, .boolean)] U ∧ va_D (fun _ => True) (wE cI cZ ad E) ∧ NwC U) (Value.ref (ad x) :: as'.map (cv ad)).toArray U := fun U hU hW => ⟨rfl, by rw [hU], by rw [hU]; exact hP, va_K.moved hW.alike hK, hDT, hNw.warm hW⟩
  have hblind : FrameBlind (va_Pc ((Value.ref x :: as').map (cv ad)) (fun U => U.heap.size = H.size ∧ va_P (dC, dI) cls (wE cI cZ ad E) U.heap ∧ va_K (dC, dI) cls [(cI, .int), (cZ, .boolean)] U ∧ va_D (fun _ => True) (wE cI cZ ad E) ∧ NwC U)) := by
    intro a U g mk hq
    obtain ⟨q0, q1, q2, q3, q4, q5⟩ := hq
    exact ⟨q0, q1, q2, va_K.moved (u := U) (U := U.calling g mk a) (Vm.Alike.refl U.vm) q3, q4, q5.same rfl⟩
  have hend : va_Run p l e R s m args below meth c H locs (E.length - n0) (eSz E - s0) (E'.length - E.length) (eSz E' - eSz E) (F0 m pc ls (st.map (cv ad))) ((st.drop b).map (cv ad)) (va_Qv (fun ad' : Nat → Nat => ∀ i, i < E.length → ad' i = ad i) (fun ad' t => va_P (dC, dI) cls (wE cI cZ ad' E') t.heap ∧ va_D (va_A (wE cI cZ ad E) H.size) (wE cI cZ ad' E')) (va_A (wE cI cZ ad E) H.size) (Value.ref (ad x) :: as'.map (cv ad)).toArray) (va_A (wE cI cZ ad E) H.size) := by
    rcases hlk with hlk | hnw
    · have cw := cwI (R := R) (s := s) (args := args) (own := cn own) (index := i) (mc := E'.length - E.length) (ms := eSz E' - eSz E) (rm := rmC d0 (E'.length - E.length) (eSz E' - eSz E)) (as'.map (cv ad)).length hts (wkC_good hj) rfl rfl rfl (hts _ (in_ini (by omega))) (hts _ (in_ki hlk)) (hts _ hinst) rfl ⟨hy.1, hy.2, hpar2⟩ ⟨hR1, by show 8 + (cL j + 11) + 28 * d0 ≤ R.locals; omega⟩
      exact va_runI (As := as'.map (cv ad)) (rest := (st.drop b).map (cv ad)) (b := ad x) (g := F0 m pc ls (st.map (cv ad))) ⟨hx, hbb, hmx, hown, hts⟩ hMk cw ⟨hblind, hpre⟩ rfl rfl hL.2.1 hstk (lv_room (by rw [cv_cats]; exact hcat)) hdg ⟨by omega, by omega⟩
    · have cw := va_cnB (R := R) (s := s) (args := args) (mc := E'.length - E.length) (ms := eSz E' - eSz E) (rm := rmC d0 (E'.length - E.length) (eSz E' - eSz E)) (as'.map (cv ad)).length hts (wkC_good hj) rfl rfl rfl hnw (hts _ (in_ini (by omega))) ⟨hy.1, hy.2, hpar2⟩ ⟨hR1, by show 8 + (cL j + 11) + 28 * d0 ≤ R.locals; omega⟩
      exact va_runIN (As := as'.map (cv ad)) (rest := (st.drop b).map (cv ad)) (b := ad x) (g := F0 m pc ls (st.map (cv ad))) ⟨hx, hbb, hmx, hown, hts⟩ hMk ⟨cw, rfl, hts _ hinst⟩ ⟨hblind, hpre⟩ rfl rfl hL.2.1 hstk (lv_room (by rw [cv_cats]; exact hcat)) hdg ⟨by omega, by omega⟩
  refine va_callv hend hS (fun q _ z => hfr q z) hfr (fun ad' t H1 locs1 ht hvm hw hB hz1 hk1 hS1 => ?_)
  obtain ⟨hP1, hD1⟩ := hB
  rw [ht] at hP1
  have hLa := hL.ag hw hlv
  have hst2 : (st.drop b).all (okR E.length) = true := List.all_eq_true.mpr (fun v hv => List.all_eq_true.mp hst v (List.mem_of_mem_drop hv))
  rw [← st_ag hw hst2]
  refine W.cs ?_ ?_ (kk ad' hw H1 locs1 ls hP1 (hD1.weaken (fun _ _ _ z => hfr _ z)) hS1 hLa)
  · omega
  · omega
end CSN
