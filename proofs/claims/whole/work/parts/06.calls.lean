/-! frames: what is known in one; calls -/
def Frm (p : Program) (l : Launch) (R : Room) (s : State) (m : MethodId) (args : Array Value) (c : Code) (own nL : Nat) (cc : ByteArray) (dC : Nat → ClassId) (dI : Nat → Nat → Nat) (cI cZ : ClassId) (ad : Nat → Nat) (sc : Nat × (Nat → Int32)) (A0 : Nat → Prop) (d cells slots : Nat) (C : CT) : Prop :=
  p.tables.exec = Jvm.exec ∧ c.code = cc ∧ c.maxLocals = nL ∧ s.vm.findClass (cn own) = some m.cls ∧ (∀ w ∈ TB, w.before args s = true) ∧ Ctx dC dI cI cZ ad sc A0 s s.heap ∧ (∀ q, ADA ad q → A0 q) ∧ d + 1 ≤ R.frames ∧ 28 * (d + 1) ≤ R.locals ∧ cells ≤ R.cells ∧ slots ≤ R.slots ∧ ∀ k, k < NM → k ≠ 53 → k ≠ 106 → MetK l dC dI cI cZ ad sc C k d
def XW (p : Program) (l : Launch) (e : Env) (R : Room) (s : State) (m : MethodId) (args : Array Value) (below : List Frame) (meth : Method) (c : Code) (dC : Nat → ClassId) (dI : Nat → Nat → Nat) (cI cZ : ClassId) (ad : Nat → Nat) (A0 : Nat → Prop) (cells slots : Nat) (QQ : State → Prop) (nL : Nat) : KT := fun pc lv st σ =>
  ∀ (H : Heap) (locs : List Loc) (ls : Array Slot), va_P (dC, dI) cls (wW cI cZ ad σ) H → va_D A0 (wW cI cZ ad σ) → va_S A0 s.heap H locs → LH ad nL ls lv → W p l e R s m args below meth c H locs cells slots QQ (F0 m pc ls (st.map (cv ad)))
theorem mOk_spec {k : Nat} (h : k < NM) (h1 : k ≠ 53) (h2 : k ≠ 106) : mO k < 16 ∧ mL k ≤ 9 ∧ ((mY k).cls ≠ "java/lang/invoke/MethodHandle" ∧ (mY k).cls ≠ "java/lang/invoke/VarHandle") ∧ (parseMethodDescriptor (mY k).desc).map (fun d => d.parameters.length + (1 - mS k)) = some (mA k) ∧ mS k ≤ 1 ∧ mA k ≤ mL k ∧ Cond.code (mY k) (mB k) (mL k) (mR k) ∈ TB := by
  have q := mOk_all h
  unfold mOk at q
  simp only [Bool.and_eq_true, decide_eq_true_eq] at q
  obtain ⟨⟨⟨⟨⟨⟨⟨⟨⟨q1, q2⟩, q3⟩, q4⟩, q5⟩, q6⟩, q7⟩, q8⟩, q9⟩, -⟩ := q
  exact ⟨q1, q2, ⟨q4, q5⟩, q6, q7, q8, tb_of q9 rfl⟩
theorem mOk_st {k : Nat} (h : k < NM) (hs : mS k = 1) : Cond.static (mY k) ∈ TB := by
  have q := mOk_all h
  unfold mOk at q
  rw [if_pos hs] at q
  simp only [Bool.and_eq_true, decide_eq_true_eq] at q
  exact tb_of q.2 rfl
theorem mOk_vi {k : Nat} (h : k < NM) (hs : mS k = 0) : Cond.instanceMethod (mY k) ∈ TB ∧ Cond.selects (mY k).cls (mY k) (mY k) ∈ TB ∧ mO k < 13 := by
  have q := mOk_all h
  unfold mOk at q
  rw [if_neg (by omega)] at q
  simp only [Bool.and_eq_true, decide_eq_true_eq] at q
  exact ⟨tb_of q.2.1.1 rfl, tb_of q.2.1.2 rfl, q.2.2⟩
theorem in_ini {o : Nat} (h : o < 16) : Cond.initialized (cn o) ∈ TB := tb_of (of_decide_eq_true (all_rg ipl_ok h)) rfl
theorem in_ml {own i k : Nat} (h : mlt.any (fun q => decide (q.1 = own ∧ q.2.1 = i ∧ q.2.2.1 = k)) = true) : Cond.methodLink (cn own) i (mY k) ∈ TB := by
  obtain ⟨q, hq, h2⟩ := List.any_eq_true.mp h
  obtain ⟨rfl, rfl, rfl⟩ := of_decide_eq_true h2
  exact tb_of (of_decide_eq_true (List.all_eq_true.mp mlt_ok q hq)) rfl
theorem wk_good {k : Nat} (h : k < NM) (h1 : k ≠ 53) (h2 : k ≠ 106) : GoodIn TB (wkK k) := by
  intro w hw
  rcases List.mem_cons.mp hw with rfl | hw
  · exact tb_good _ (mOk_spec h h1 h2).2.2.2.2.2.2
  · exact tb_good _ hw
theorem WB.blind {dC : Nat → ClassId} {dI : Nat → Nat → Nat} {cI cZ : ClassId} {ad : Nat → Nat} {sc : Nat × (Nat → Int32)} {σ : St} {av : List Value} : FrameBlind (va_Pc av (WB dC dI cI cZ ad sc σ)) := by
  intro a U g mk h
  obtain ⟨h0, h1, h2, h3, h4, h5, h6⟩ := h
  exact ⟨h0, h1, h2, va_K.moved (u := U) (U := U.calling g mk a) (Vm.Alike.refl U.vm) h3, h4.same rfl, fun j hj => va_Z.moved (u := U) (U := U.calling g mk a) (Vm.Alike.refl U.vm) (h5 j hj), fun c q hq => va_T.moved (u := U) (U := U.calling g mk a) (Vm.Alike.refl U.vm) (h6 c q hq)⟩
section CLL
variable {p : Program} {l : Launch} {e : Env} {R : Room} {s : State} {m : MethodId} {args : Array Value} {below : List Frame} {meth : Method} {c : Code} {own nL : Nat} {cc : ByteArray} {dC : Nat → ClassId} {dI : Nat → Nat → Nat} {cI cZ : ClassId} {ad : Nat → Nat} {sc : Nat × (Nat → Int32)} {A0 : Nat → Prop} {d cells slots : Nat} {C : CT} {QQ : State → Prop}
theorem pre_of (F : Frm p l R s m args c own nL cc dC dI cI cZ ad sc A0 d cells slots C) {H : Heap} {locs : List Loc} {σ : St} {av : List Value} (hP : va_P (dC, dI) cls (wW cI cZ ad σ) H) (hD : va_D A0 (wW cI cZ ad σ)) (hS : va_S A0 s.heap H locs) : ∀ U : State, U.heap = H → s.WarmedH U.vm → va_Pc av (WB dC dI cI cZ ad sc σ) av.toArray U := by
  obtain ⟨-, -, -, -, -, hC, hAA, -⟩ := F
  intro U hU hW
  refine ⟨rfl, by rw [hU]; exact hP, ⟨hD.1, fun k q hk => ?_⟩, hC.moved hW hS hAA hU⟩
  have hl : k < 85 := by
    have := (List.getElem?_eq_some_iff.mp hk).1
    simpa [wW] using this
  rw [wW_at hl] at hk
  cases hk
  exact ⟨k, hl, rfl⟩
theorem va_D.toA (hAA : ∀ q, ADA ad q → A0 q) {σ : St} (h : va_D (ADA ad) (wW cI cZ ad σ)) : va_D A0 (wW cI cZ ad σ) := h.weaken (fun _ _ _ z => hAA _ z)
/-- behind a call -/
theorem call_end (F : Frm p l R s m args c own nL cc dC dI cI cZ ad sc A0 d cells slots C) {k : Nat} {Q : Int32 → St → Prop} {pc : Nat} {ls : Array Slot} {st0 rest : List Value} {lv : LV} {H : Heap} {locs : List Loc} {av : Array Value}
    (hS : va_S A0 s.heap H locs) (hL : LH ad nL ls lv)
    (hr : va_Run p l e R s m args below meth c H locs cells slots 0 0 (F0 m pc ls st0) (rest.map (cv ad)) (QcK dC dI cI cZ ad sc k Q av) (ADA ad))
    (kk : ∀ r σ', Q r σ' → XW p l e R s m args below meth c dC dI cI cZ ad A0 cells slots QQ nL (pc + 3) lv (bif Nat.beq (mRk k) 0 then rest else .int r :: rest) σ') :
    W p l e R s m args below meth c H locs cells slots QQ (F0 m pc ls st0) := by
  obtain ⟨-, -, -, -, -, -, hAA, -⟩ := F
  unfold QcK at hr
  cases hv : Nat.beq (mRk k) 0 with
  | true =>
    rw [hv] at hr kk
    refine va_callv hr hS (fun q _ z => hAA q z) hAA (fun u t H1 locs1 ht hvm hw hB hz1 hk1 hS1 => ?_)
    obtain ⟨hP1, hD1, -⟩ := hB
    rw [ht] at hP1
    exact kk 0 u hw H1 locs1 ls hP1 (va_D.toA hAA hD1) hS1 hL
  | false =>
    rw [hv] at hr kk
    refine va_calli hr hS (fun q _ z => hAA q z) hAA (fun r u t H1 locs1 ht hvm hw hB hz1 hk1 hS1 => ?_)
    obtain ⟨hP1, hD1, -⟩ := hB
    rw [ht] at hP1
    exact kk r u hw H1 locs1 ls hP1 (va_D.toA hAA hD1) hS1 hL
set_option maxHeartbeats 1000000 in
theorem call_v (F : Frm p l R s m args c own nL cc dC dI cI cZ ad sc A0 d cells slots C) {k i : Nat} (hk : k < NM) (h53 : k ≠ 53) (h106 : k ≠ 106) (hs : mS k = 0) (hml : mlt.any (fun q => decide (q.1 = own ∧ q.2.1 = i ∧ q.2.2.1 = k)) = true)
    {pc : Nat} {ls : Array Slot} {lv : LV} {st : List Value} {σ : St} {H : Heap} {locs : List Loc} (hdg : decode cc pc = .ok (.invokevirtual i, 3))
    (hP : va_P (dC, dI) cls (wW cI cZ ad σ) H) (hD : va_D A0 (wW cI cZ ad σ)) (hS : va_S A0 s.heap H locs) (hL : LH ad nL ls lv)
    (h : p_call C (Nat.beq (mRk k) 0) k (mA k) (rcv (mO k)) (fun st σ => XW p l e R s m args below meth c dC dI cI cZ ad A0 cells slots QQ nL (pc + 3) lv st σ) st σ) :
    W p l e R s m args below meth c H locs cells slots QQ (F0 m pc ls (st.map (cv ad))) := by
  obtain ⟨hx, hb, hmx, hown, hts, hC, hAA, hR1, hR2, hc1, hc2, hM⟩ := id F
  unfold p_call at h
  split at h
  case h_2 => exact h.elim
  rename_i hcond
  simp only [Bool.and_eq_true] at hcond
  obtain ⟨⟨hlen, hcat⟩, hrc⟩ := hcond
  have hlen := Nat.le_of_ble_eq_true hlen
  have hcat := Nat.le_of_ble_eq_true hcat
  obtain ⟨ho, hmL, hy, hpar, hs1, hA, hcode⟩ := mOk_spec hk h53 h106
  obtain ⟨hin, hsel, ho13⟩ := mOk_vi hk hs
  have hst : st = (st.take (mA k)).reverse.reverse ++ st.drop (mA k) := by rw [List.reverse_reverse]; exact (List.take_append_drop _ _).symm
  have hal : (st.take (mA k)).reverse.length = mA k := by rw [List.length_reverse, List.length_take]; omega
  generalize st.drop (mA k) = rest at h hst hcat
  generalize (st.take (mA k)).reverse = as at h hst hal hrc
  unfold rcv at hrc
  split at hrc
  case h_2 => cases hrc
  rename_i r0 as'
  split at hrc
  case h_2 => cases hrc
  rename_i cj fs hlay
  have hcj : cj = mO k := Nat.eq_of_beq_eq_true hrc
  subst hcj
  have hMk := hM k hk h53 h106 _ σ _ h
  have hr0 := lay_lt hlay
  have hent : (wW cI cZ ad σ)[r0]? = some (ad r0, .inr (mO k, obF ad σ r0 fs)) := by rw [wW_at hr0]; simp only [ent, hlay]
  have hn : (as'.map (cv ad)).length + 1 = mA k := by rw [List.length_map]; simpa using hal
  have hpar2 : (parseMethodDescriptor (mY k).desc).map (fun d => d.parameters.length) = some ((as'.map (cv ad)).length) := by
    rw [hs] at hpar
    cases hpd : parseMethodDescriptor (mY k).desc with
    | none => rw [hpd] at hpar; cases hpar
    | some dd =>
      rw [hpd] at hpar
      simp only [Option.map_some, Option.some.injEq] at hpar ⊢
      omega
  have hT : GoodIn TB (wsV (cn own) i (cn (mO k)) (mY k) (wkK k)) := by
    intro w hw
    unfold wsV at hw
    rcases List.mem_append.mp hw with hw | hw
    · simp only [List.mem_cons, List.not_mem_nil, or_false] at hw
      rcases hw with rfl | rfl | rfl | rfl
      · exact tb_good _ (in_ml hml)
      · exact tb_good _ hin
      · exact tb_good _ hsel
      · exact tb_good _ (in_ini ho)
    · exact wk_good hk h53 h106 w hw
  have cw := cwV (R := R) (s := s) (args := args) (mc := 0) (ms := 0) (rm := rmD d) (as'.map (cv ad)).length hts hT rfl rfl rfl ⟨rfl, hy.1, hy.2, hpar2⟩ ⟨hR1, by show 8 + (mL k + 11) + 28 * d ≤ R.locals; omega⟩
  have hstk : st.map (cv ad) = (as'.map (cv ad)).reverse ++ .ref (ad r0) :: rest.map (cv ad) := by
    rw [hst, List.reverse_cons, List.map_append, List.map_append, List.map_reverse, List.append_assoc]
    rfl
  have hrun := va_runV (e := e) (below := below) (meth := meth) (locs := locs) (cells := cells) (slots := slots) (As := as'.map (cv ad)) (rest := rest.map (cv ad)) (b := ad r0) (g := F0 m pc ls (st.map (cv ad))) ⟨hx, hb, hmx, hown, hts⟩ hMk cw ⟨WB.blind, va_recv hC.1 hP (cls_at ho13) hent, pre_of F hP hD hS⟩ rfl rfl (hL.2.1) hstk (lv_room (by rw [cv_cats]; exact hcat)) hdg ⟨hc1, hc2⟩
  exact call_end F hS hL hrun (fun r σ' z => z)
set_option maxHeartbeats 1000000 in
theorem call_s (F : Frm p l R s m args c own nL cc dC dI cI cZ ad sc A0 d cells slots C) {k i : Nat} (hk : k < NM) (h53 : k ≠ 53) (h106 : k ≠ 106) (hs : mS k = 1) (hml : mlt.any (fun q => decide (q.1 = own ∧ q.2.1 = i ∧ q.2.2.1 = k)) = true ∨ ∃ host : String, va_Nw (.methodLinkNest (cn own) i (mY k) host) s)
    {pc : Nat} {ls : Array Slot} {lv : LV} {st : List Value} {σ : St} {H : Heap} {locs : List Loc} (hdg : decode cc pc = .ok (.invokestatic i, 3))
    (hP : va_P (dC, dI) cls (wW cI cZ ad σ) H) (hD : va_D A0 (wW cI cZ ad σ)) (hS : va_S A0 s.heap H locs) (hL : LH ad nL ls lv)
    (h : p_call C (Nat.beq (mRk k) 0) k (mA k) (fun _ => true) (fun st σ => XW p l e R s m args below meth c dC dI cI cZ ad A0 cells slots QQ nL (pc + 3) lv st σ) st σ) :
    W p l e R s m args below meth c H locs cells slots QQ (F0 m pc ls (st.map (cv ad))) := by
  obtain ⟨hx, hb, hmx, hown, hts, hC, hAA, hR1, hR2, hc1, hc2, hM⟩ := id F
  unfold p_call at h
  split at h
  case h_2 => exact h.elim
  rename_i hcond
  simp only [Bool.and_eq_true] at hcond
  obtain ⟨⟨hlen, hcat⟩, -⟩ := hcond
  have hlen := Nat.le_of_ble_eq_true hlen
  have hcat := Nat.le_of_ble_eq_true hcat
  obtain ⟨ho, hmL, hy, hpar, hs1, hA, hcode⟩ := mOk_spec hk h53 h106
  have hstt := mOk_st hk hs
  have hst : st = (st.take (mA k)).reverse.reverse ++ st.drop (mA k) := by rw [List.reverse_reverse]; exact (List.take_append_drop _ _).symm
  have hal : (st.take (mA k)).reverse.length = mA k := by rw [List.length_reverse, List.length_take]; omega
  generalize st.drop (mA k) = rest at h hst hcat
  generalize (st.take (mA k)).reverse = as at h hst hal
  have hMk := hM k hk h53 h106 _ σ _ h
  have hpar2 : (parseMethodDescriptor (mY k).desc).map (fun d => d.parameters.length) = some ((as.map (cv ad)).length) := by
    rw [hs] at hpar
    cases hpd : parseMethodDescriptor (mY k).desc with
    | none => rw [hpd] at hpar; cases hpar
    | some dd =>
      rw [hpd] at hpar
      simp only [Option.map_some, Option.some.injEq, List.length_map] at hpar ⊢
      omega
  have hstk : st.map (cv ad) = (as.map (cv ad)).reverse ++ rest.map (cv ad) := by
    rw [hst, List.map_append, List.map_reverse]
  rcases hml with hml | ⟨host, hnw⟩
  · have hT : GoodIn TB (va_wsS (cn own) i (mY k) (wkK k)) := by
      intro w hw
      unfold va_wsS at hw
      rcases List.mem_append.mp hw with hw | hw
      · simp only [List.mem_cons, List.not_mem_nil, or_false] at hw
        rcases hw with rfl | rfl | rfl
        · exact tb_good _ (in_ml hml)
        · exact tb_good _ hstt
        · exact tb_good _ (in_ini ho)
      · exact wk_good hk h53 h106 w hw
    have cw := va_cwS (R := R) (s := s) (args := args) (mc := 0) (ms := 0) (rm := rmD d) (as.map (cv ad)).length hts hT rfl rfl rfl ⟨hy.1, hy.2, hpar2⟩ ⟨hR1, by show 8 + (mL k + 11) + 28 * d ≤ R.locals; omega⟩
    have hrun := va_runS (e := e) (below := below) (meth := meth) (locs := locs) (cells := cells) (slots := slots) (As := as.map (cv ad)) (rest := rest.map (cv ad)) (g := F0 m pc ls (st.map (cv ad))) ⟨hx, hb, hmx, hown, hts⟩ hMk cw ⟨WB.blind, pre_of F hP hD hS⟩ rfl rfl (hL.2.1) hstk (lv_room (by rw [cv_cats]; exact hcat)) hdg ⟨hc1, hc2⟩
    exact call_end F hS hL hrun (fun r σ' z => z)
  · have cw := va_cnB (R := R) (s := s) (args := args) (mc := 0) (ms := 0) (rm := rmD d) (as.map (cv ad)).length hts (wk_good hk h53 h106) rfl rfl rfl hnw (hts _ (in_ini ho)) ⟨hy.1, hy.2, hpar2⟩ ⟨hR1, by show 8 + (mL k + 11) + 28 * d ≤ R.locals; omega⟩
    have hrun := va_runSN (e := e) (below := below) (meth := meth) (locs := locs) (cells := cells) (slots := slots) (As := as.map (cv ad)) (rest := rest.map (cv ad)) (g := F0 m pc ls (st.map (cv ad))) ⟨hx, hb, hmx, hown, hts⟩ hMk ⟨cw, hts _ hstt, trivial⟩ ⟨WB.blind, pre_of F hP hD hS⟩ rfl rfl (hL.2.1) hstk (lv_room (by rw [cv_cats]; exact hcat)) hdg ⟨hc1, hc2⟩
    exact call_end F hS hL hrun (fun r σ' z => z)
end CLL
