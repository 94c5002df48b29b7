/-! constructors: whole runs, their contracts -/
section CRN
variable {p : Program} {l : Launch} {e : Env} {R : Room} {s : State} {m : MethodId} {args : Array Value} {below : List Frame} {meth : Method} {c : Code} {own nL : Nat} {cc : ByteArray} {dC : Nat → ClassId} {dI : Nat → Nat → Nat} {cI cZ : ClassId} {A : Nat → Prop} {d0 : Nat} {QQ : State → Prop} {n0 s0 L1 S1 : Nat} {sub : Nat → List Value → List PE → Option (List PE)}
set_option maxHeartbeats 2000000 in
theorem call_c0 (F : FrC p R s m args meth c own nL cc dC dI cI cZ A d0) {j i b : Nat} (hj : j < 13) (hb2 : b = cA j) (hlk : kit.any (fun q => decide (q.1 = own ∧ q.2.1 = i ∧ q.2.2.1 = j)) = true ∨ va_Nw (.methodLinkNest (cn own) i (cY j) "TradeTests") s)
    {pc : Nat} {st : List Value} {E E' : List PE} (hM : MetC l dC dI cI cZ j d0 (st.take b).reverse E E') (hbl : b ≤ st.length) (hcat : cats (st.drop b) ≤ 8) (hrf : ((st.take b).reverse).head? ≠ none) (hr0 : ∃ x as', (st.take b).reverse = Value.ref x :: as')
    (hst : st.all (okR E.length) = true) (h1 : n0 ≤ E.length) (h2 : s0 ≤ eSz E) (h3 : E.length ≤ E'.length) (h4 : eSz E ≤ eSz E') (h5 : E'.length - n0 ≤ R.cells) (h6 : eSz E' - s0 ≤ R.slots) (hdg : decode cc pc = .ok (.invokespecial i, 3))
    {ad : Nat → Nat} {H : Heap} {locs : List Loc} {ls : Array Slot} (hls : ls.size = nL) (hP : va_P (dC, dI) cls (wE cI cZ ad E) H) (hD : va_D A (wE cI cZ ad E)) (hS : va_S A s.heap H locs) (kk : ∀ (ad' : Nat → Nat) (H1 : Heap) (locs1 : List Loc), (∀ i, i < E.length → ad' i = ad i) → va_P (dC, dI) cls (wE cI cZ ad' E') H1 → va_D A (wE cI cZ ad' E') → va_S A s.heap H1 locs1 → W p l e R s m args below meth c H1 locs1 (E'.length - n0) (eSz E' - s0) QQ (F0 m (pc + 3) ls ((st.drop b).map (cv ad')))) : W p l e R s m args below meth c H locs (E.length - n0) (eSz E - s0) QQ (F0 m pc ls (st.map (cv ad))) := by
  obtain ⟨hx, hbb, hmx, hown, hts, hK, hNw, hA, hR1, hR2, hin⟩ := F
  obtain ⟨hpl, hy, hpar, hcl, hcl9, hcode, hinst⟩ := ct_spec hj
  obtain ⟨x, as', has⟩ := hr0
  have hstd : st = (st.take b).reverse.reverse ++ st.drop b := by rw [List.reverse_reverse]; exact (List.take_append_drop _ _).symm
  have hal : (st.take b).reverse.length = cA j := by rw [List.length_reverse, List.length_take]; omega
  rw [has] at hM hal hstd
  have hstk : st.map (cv ad) = (as'.map (cv ad)).reverse ++ .ref (ad x) :: (st.drop b).map (cv ad) := by
    have := congrArg (List.map (cv ad)) hstd
    rw [this, List.reverse_cons, List.map_append, List.map_append, List.map_reverse, List.append_assoc]
    rfl
  have hpar2 : (parseMethodDescriptor (cY j).desc).map (fun d => d.parameters.length) = some ((as'.map (cv ad)).length) := by
    cases hpd : parseMethodDescriptor (cY j).desc with
    | none => rw [hpd] at hpar; cases hpar
    | some dd =>
      rw [hpd] at hpar
      simp only [Option.map_some, Option.some.injEq, List.length_map] at hpar ⊢
      simp at hal
      omega
  have hDT : va_D (fun _ => True) (wE cI cZ ad E) := hD.weaken (fun _ _ _ _ => trivial)
  have hfr : ∀ q, va_A (wE cI cZ ad E) H.size q → A q := by
    intro q hq
    rcases hq with ⟨k, e, hq⟩ | hq
    · exact hD.2 k _ hq
    · exact hA q (Nat.le_trans hS.1 hq)
  have hMk := hM ad H.size
  have hpre : ∀ U : State, U.heap = H → s.WarmedH U.vm → va_Pc ((Value.ref x :: as').map (cv ad)) (fun U => U.heap.size = H.size ∧ va_P (dC, dI) cls (wE cI cZ ad E) U.heap ∧ va_K (dC, dI) cls [(cI, .int), (cZ, .boolean)] U ∧ va_D (fun _ => True) (wE cI cZ ad E) ∧ NwC U) (Value.ref (ad x) :: as'.map (cv ad)).toArray U := fun U hU hW => ⟨rfl, by rw [hU], by rw [hU]; exact hP, va_K.moved hW.alike hK, hDT, hNw.warm hW⟩
  have hblind : FrameBlind (va_Pc ((Value.ref x :: as').map (cv ad)) (fun U => U.heap.size = H.size ∧ va_P (dC, dI) cls (wE cI cZ ad E) U.heap ∧ va_K (dC, dI) cls [(cI, .int), (cZ, .boolean)] U ∧ va_D (fun _ => True) (wE cI cZ ad E) ∧ NwC U)) := by
    intro a U g mk hq
    obtain ⟨q0, q1, q2, q3, q4, q5⟩ := hq
    exact ⟨q0, q1, q2, va_K.moved (u := U) (U := U.calling g mk a) (Vm.Alike.refl U.vm) q3, q4, q5.same rfl⟩
  have hend : va_Run p l e R s m args below meth c H locs (E.length - n0) (eSz E - s0) (E'.length - E.length) (eSz E' - eSz E) (F0 m pc ls (st.map (cv ad))) ((st.drop b).map (cv ad)) (va_Qv (fun ad' : Nat → Nat => ∀ i, i < E.length → ad' i = ad i) (fun ad' t => va_P (dC, dI) cls (wE cI cZ ad' E') t.heap ∧ va_D (va_A (wE cI cZ ad E) H.size) (wE cI cZ ad' E')) (va_A (wE cI cZ ad E) H.size) (Value.ref (ad x) :: as'.map (cv ad)).toArray) (va_A (wE cI cZ ad E) H.size) := by
    rcases hlk with hlk | hnw
    · have cw := cwI (R := R) (s := s) (args := args) (own := cn own) (index := i) (mc := E'.length - E.length) (ms := eSz E' - eSz E) (rm := rmC d0 (E'.length - E.length) (eSz E' - eSz E)) (as'.map (cv ad)).length hts (wkC_good hj) rfl rfl rfl (hts _ (in_ini (by omega))) (hts _ (in_ki hlk)) (hts _ hinst) rfl ⟨hy.1, hy.2, hpar2⟩ ⟨hR1, by show 8 + (cL j + 11) + 28 * d0 ≤ R.locals; omega⟩
      exact va_runI (As := as'.map (cv ad)) (rest := (st.drop b).map (cv ad)) (b := ad x) (g := F0 m pc ls (st.map (cv ad))) ⟨hx, hbb, hmx, hown, hts⟩ hMk cw ⟨hblind, hpre⟩ rfl rfl hls hstk (lv_room (by rw [cv_cats]; exact hcat)) hdg ⟨by omega, by omega⟩
    · have cw := va_cnB (R := R) (s := s) (args := args) (mc := E'.length - E.length) (ms := eSz E' - eSz E) (rm := rmC d0 (E'.length - E.length) (eSz E' - eSz E)) (as'.map (cv ad)).length hts (wkC_good hj) rfl rfl rfl hnw (hts _ (in_ini (by omega))) ⟨hy.1, hy.2, hpar2⟩ ⟨hR1, by show 8 + (cL j + 11) + 28 * d0 ≤ R.locals; omega⟩
      exact va_runIN (As := as'.map (cv ad)) (rest := (st.drop b).map (cv ad)) (b := ad x) (g := F0 m pc ls (st.map (cv ad))) ⟨hx, hbb, hmx, hown, hts⟩ hMk ⟨cw, rfl, hts _ hinst⟩ ⟨hblind, hpre⟩ rfl rfl hls hstk (lv_room (by rw [cv_cats]; exact hcat)) hdg ⟨by omega, by omega⟩
  refine va_callv hend hS (fun q _ z => hfr q z) hfr (fun ad' t H1 locs1 ht hvm hw hB hz1 hk1 hS1 => ?_)
  obtain ⟨hP1, hD1⟩ := hB
  rw [ht] at hP1
  have hst2 : (st.drop b).all (okR E.length) = true := List.all_eq_true.mpr (fun v hv => List.all_eq_true.mp hst v (List.mem_of_mem_drop hv))
  rw [← st_ag hw hst2]
  refine W.cs ?_ ?_ (kk ad' H1 locs1 hw hP1 (hD1.weaken (fun _ _ _ z => hfr _ z)) hS1)
  · omega
  · omega

theorem crun_sound (F : FrC p R s m args meth c own nL cc dC dI cI cZ A d0) (hsub : ∀ j as E E', sub j as E = some E' → j < 13 → MetC l dC dI cI cZ j d0 as E E' ∧ ∃ x as', as = Value.ref x :: as') {cd : List CE} (hok : ∀ q ∈ cd, okC own nL cc q = true) {E' : List PE} {ad0 : Nat → Nat} (hR3 : L1 - n0 ≤ R.cells) (hR4 : S1 - s0 ≤ R.slots) (hn00 : True)
    (hret : ∀ (ad : Nat → Nat) (H : Heap) (locs : List Loc) (ls : Array Slot) (pc : Nat), (∀ i, i < n0 → ad i = ad0 i) → va_P (dC, dI) cls (wE cI cZ ad E') H → va_D A (wE cI cZ ad E') → va_S A s.heap H locs → decode cc pc = .ok (.return_, 1) → W p l e R s m args below meth c H locs (E'.length - n0) (eSz E' - s0) QQ (F0 m pc ls [])) :
    ∀ (n pc : Nat) (lv : LV) (st : List Value) (E : List PE) (ad : Nat → Nat), crun sub cd n0 s0 L1 S1 n pc lv st E = some E' → (∀ i, i < n0 → ad i = ad0 i) → XC p l e R s m args below meth c dC dI cI cZ A n0 s0 QQ nL pc lv st E ad := by
  intro n
  induction n with
  | zero => intro pc lv st E ad h _; cases h
  | succ n ih =>
    intro pc lv st E ad h hag
    unfold crun at h
    split at h
    · cases h
    · rename_i hchk
      simp only [Bool.and_eq_true] at hchk
      obtain ⟨⟨⟨⟨hE, hlv⟩, hst⟩, hn⟩, hs⟩ := hchk
      have hn := Nat.le_of_ble_eq_true hn
      have hs := Nat.le_of_ble_eq_true hs
      split at h
      · cases h
      · rename_i q hq
        obtain ⟨hqm, rfl⟩ := fnd_spec hq
        have hokq := hok q hqm
        split at h
        · rename_i hr
          split at h
          · split at h
            · cases h
              intro H locs ls hP hD hS hL
              obtain ⟨pc, len, ins, imm, a, b, d, sw⟩ := q
              have hins : ins = .return_ := by
                dsimp only at hr
                unfold isRet at hr
                split at hr
                · rfl
                · cases hr
              subst hins
              unfold okC at hokq
              simp only [Bool.and_eq_true] at hokq
              have hdg := of_decide_eq_true hokq.1
              have hl1 : len = 1 := of_decide_eq_true hokq.2
              rw [hl1] at hdg
              exact hret ad H locs ls pc hag hP hD hS hdg
            · cases h
          · cases h
        · split at h
          · cases h
          · rename_i lv' st' E2 hc
            split at h
            · rename_i hb
              simp only [Bool.and_eq_true] at hb
              obtain ⟨⟨⟨b1, b2⟩, b3⟩, b4⟩ := hb
              have b1 := Nat.le_of_ble_eq_true b1
              have b2 := Nat.le_of_ble_eq_true b2
              have b3 := Nat.le_of_ble_eq_true b3
              have b4 := Nat.le_of_ble_eq_true b4
              refine csnd1 F hsub hokq hc hE hlv hst hn hs b1 b2 (by omega) (by omega) (fun ad' hag' => ?_)
              exact ih _ _ _ _ _ h (fun i hi => (hag' i (by omega)).trans (hag i hi))
            · cases h
end CRN
theorem LHn {ad : Nat → Nat} {n : Nat} {as : List Value} (hc : ∀ v ∈ as, v.category = 1) (hn : as.length ≤ n) : LH ad n ((lg_sl (as.map (cv ad)) ++ List.replicate (n - (lg_sl (as.map (cv ad))).length) Slot.unset).toArray) (as.map some ++ List.replicate (n - as.length) none) := by
  have hc' : ∀ v ∈ as.map (cv ad), v.category = 1 := by
    intro v hv
    obtain ⟨w, hw, rfl⟩ := List.mem_map.mp hv
    rw [cv_cat]; exact hc w hw
  have hl := lv_entry (as.map (cv ad)) (n := n) (by rw [lg_sl1 hc', List.length_map]; exact hn)
  refine ⟨by simp; omega, hl.1, hl.2.1, ?_⟩
  rintro ⟨i, w⟩ hq
  obtain ⟨v, h1, rfl⟩ := prs_mem.mp hq
  have hi : as[i]? = some v := by
    rcases Nat.lt_or_ge i as.length with hlt | hge
    · rw [List.getElem?_append_left (by rw [List.length_map]; exact hlt), List.getElem?_map] at h1
      cases hz : as[i]? with
      | none => rw [hz] at h1; cases h1
      | some z => rw [hz] at h1; simp at h1; rw [h1]
    · rw [List.getElem?_append_right (by rw [List.length_map]; exact hge)] at h1
      have := List.eq_of_mem_replicate (List.mem_of_getElem? h1)
      cases this
  have h2 := lv_args1 (n := 0) (i := i) hc' (show (as.map (cv ad))[i]? = some (cv ad v) by rw [List.getElem?_map, hi]; rfl)
  rw [Nat.zero_add] at h2
  exact hl.2.2 _ h2
def subG (sub : Nat → List Value → List PE → Option (List PE)) (j : Nat) (as : List Value) (E : List PE) : Option (List PE) := match Nat.beq as.length (cA j) && as.all (okR E.length) && as.all (fun v => Nat.beq v.category 1) with
  | true => crun sub (cdcL.getD j []) E.length (eSz E) (E.length + (gro.getD j (0, 0)).1) (eSz E + (gro.getD j (0, 0)).2) 300 0 (as.map some ++ List.replicate (cL j - as.length) none) [] E
  | false => none
theorem crun_end {sub : Nat → List Value → List PE → Option (List PE)} {cd : List CE} {n0 s0 L1 S1 : Nat} : ∀ {n pc : Nat} {lv : LV} {st : List Value} {E E' : List PE}, crun sub cd n0 s0 L1 S1 n pc lv st E = some E' → E'.length = L1 ∧ eSz E' = S1 := by
  intro n
  induction n with
  | zero => intro pc lv st E E' h; cases h
  | succ n ih =>
    intro pc lv st E E' h
    unfold crun at h
    split at h
    · cases h
    · split at h
      · cases h
      · split at h
        · split at h
          · split at h
            · rename_i hb
              cases h
              simp only [Bool.and_eq_true] at hb
              exact ⟨Nat.eq_of_beq_eq_true hb.1, Nat.eq_of_beq_eq_true hb.2⟩
            · cases h
          · cases h
        · split at h
          · cases h
          · split at h
            · exact ih h
            · cases h
set_option maxHeartbeats 4000000 in
theorem metC_of {l : Launch} {dC : Nat → ClassId} {dI : Nat → Nat → Nat} {cI cZ : ClassId} {sub : Nat → List Value → List PE → Option (List PE)} {d0 : Nat} (hsub : ∀ j as E E', sub j as E = some E' → j < 13 → MetC l dC dI cI cZ j d0 as E E' ∧ ∃ x as', as = Value.ref x :: as') {j : Nat} (hj : j < 13) {as : List Value} {E E' : List PE} (h : subG sub j as E = some E') : MetC l dC dI cI cZ j (d0 + 1) as E E' := by
  unfold subG at h
  split at h
  case h_2 => cases h
  rename_i hchk
  simp only [Bool.and_eq_true] at hchk
  obtain ⟨⟨hal, har⟩, hac⟩ := hchk
  have hal := Nat.eq_of_beq_eq_true hal
  have hac : ∀ v ∈ as, v.category = 1 := fun v hv => Nat.eq_of_beq_eq_true (List.all_eq_true.mp hac v hv)
  obtain ⟨hpl, hy, hpar, hcl, hcl9, hcode, hinst⟩ := ct_spec hj
  obtain ⟨hl1, hs1⟩ := crun_end h
  intro ad sz
  refine Met.ofW (cc := cB j) (maxL := cL j) (ret := none) hpl rfl ?_
  intro p e s m args below meth c s₁ B hml hv
  obtain ⟨rfl, hsz, hP, hK, hD0, hNw⟩ := hv
  have hts : ∀ w ∈ TB, w.before (as.map (cv ad)).toArray s = true := fun w hw => atoms_spec (ws := wkC j) B.pre w (List.mem_cons_of_mem _ hw)
  have hown : s.vm.findClass (cn j) = some m.cls := findClass_of_methodNamed B.named
  have hlocks := B.notSynchronized
  have hr : meth.sig.returnType = none := B.returns
  have hin : meth.name = "<init>" := (name_of_methodNamed B.named B.method).1
  subst hsz
  have hD := hD0.self (sz := s.heap.size)
  generalize hAe : va_A (wE cI cZ ad E) s.heap.size = A at hD ⊢
  have hA : ∀ q : Nat, s.heap.size ≤ q → A q := fun q h => by rw [← hAe]; exact Or.inr h
  have F : FrC p (headSpec (wkC j) (rmC (d0 + 1) (E'.length - E.length) (eSz E' - eSz E))).room s m (as.map (cv ad)).toArray meth c j (cL j) (cB j) dC dI cI cZ A d0 := ⟨B.exec, B.bytes, hml, hown, hts, hK, hNw, hA, Nat.le_refl _, Nat.le_refl _, fun _ => hin⟩
  have hokj : ∀ q ∈ cdcL.getD j [], okC j (cL j) (cB j) q = true := fun q hq => List.all_eq_true.mp (all_rg okC_all hj) q hq
  rw [lg_entry_eq]
  have hX := crun_sound (e := e) (below := below) (QQ := MQ below (va_Qv (fun ad' : Nat → Nat => ∀ i, i < E.length → ad' i = ad i) (fun ad' t => va_P (dC, dI) cls (wE cI cZ ad' E') t.heap ∧ va_D A (wE cI cZ ad' E')) A) (as.map (cv ad)).toArray s (E'.length - E.length) (eSz E' - eSz E) A) F hsub hokj (ad0 := ad) (by show _ ≤ E'.length - E.length; rw [hl1]; exact Nat.le_refl _) (by show _ ≤ eSz E' - eSz E; rw [hs1]; exact Nat.le_refl _) trivial (fun ad' H locs ls pc hag hP' hD' hS' hdg => ?_) 300 0 _ _ E ad h (fun _ _ => rfl)
  · have hz := hX s.heap [] _ hP hD va_S.rf (LHn hac (by rw [hal]; exact hcl))
    rw [Nat.sub_self, Nat.sub_self] at hz
    exact hz
  · exact W.vret B.exec B.bytes hr (fun t ht hW => ⟨⟨ad', rfl, hag, by rw [ht]; exact hP', hD'⟩, hS'.F ht⟩) hS'.2.2 hdg
theorem subG_ref {sub : Nat → List Value → List PE → Option (List PE)} {j : Nat} (hj : j < 13) {as : List Value} {E E' : List PE} (h : subG sub j as E = some E') (hr : as.head?.any (fun v => match v with | .ref _ => true | _ => false) = true) : ∃ x as', as = Value.ref x :: as' := by
  cases as with
  | nil => cases hr
  | cons v as' =>
    cases v <;> first | exact ⟨_, _, rfl⟩ | cases hr
