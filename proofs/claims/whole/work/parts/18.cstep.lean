/-! one step of a constructor -/
section CSN
variable {p : Program} {l : Launch} {e : Env} {R : Room} {s : State} {m : MethodId} {args : Array Value} {below : List Frame} {meth : Method} {c : Code} {own nL : Nat} {cc : ByteArray} {dC : Nat → ClassId} {dI : Nat → Nat → Nat} {cI cZ : ClassId} {A : Nat → Prop} {d0 : Nat} {QQ : State → Prop} {n0 s0 L1 S1 : Nat} {sub : Nat → List Value → List PE → Option (List PE)}
set_option maxHeartbeats 4000000 in
theorem csnd1 (F : FrC p R s m args meth c own nL cc dC dI cI cZ A d0) (hsub : ∀ j as E E', sub j as E = some E' → j < 13 → MetC l dC dI cI cZ j d0 as E E' ∧ ∃ x as', as = Value.ref x :: as') {q : CE} (hok : okC own nL cc q = true) {lv lv' : LV} {st st' : List Value} {E E' : List PE}
    (h : cst sub q lv st E = some (lv', st', E')) (hE : okEs E.length E = true) (hlv : okLV E.length lv = true) (hst : st.all (okR E.length) = true) (h1 : n0 ≤ E.length) (h2 : s0 ≤ eSz E) (h3 : E.length ≤ E'.length) (h4 : eSz E ≤ eSz E') (h5 : E'.length - n0 ≤ R.cells) (h6 : eSz E' - s0 ≤ R.slots)
    {ad : Nat → Nat} (kk : ∀ ad' : Nat → Nat, (∀ i, i < E.length → ad' i = ad i) → XC p l e R s m args below meth c dC dI cI cZ A n0 s0 QQ nL (q.1 + q.2.1) lv' st' E' ad') : XC p l e R s m args below meth c dC dI cI cZ A n0 s0 QQ nL q.1 lv st E ad := by
  obtain ⟨hx, hbb, hmx, hown, hts, hK, hNw, hA, hR1, hR2, hin⟩ := id F
  obtain ⟨pc, len, ins, imm, a, b, d, sw⟩ := q
  unfold okC at hok
  simp only [Bool.and_eq_true] at hok
  obtain ⟨hdg, hI⟩ := hok
  have hdg := of_decide_eq_true hdg
  unfold cst at h
  dsimp only at h hI kk ⊢
  cases ins with
  | aload_n n =>
    dsimp only at h hI
    obtain ⟨rfl, hv⟩ := of_decide_eq_true hI
    split at h
    · rename_i x hlx
      cases h
      intro H locs ls hP hD hS hL
      exact lv_aload_n hx hbb hdg hv (hL.at hlx) (kk ad (fun _ _ => rfl) H locs ls hP hD hS hL)
    · cases h
  | aload n =>
    dsimp only at h hI
    obtain ⟨rfl, rfl⟩ := of_decide_eq_true hI
    split at h
    · rename_i x hlx
      cases h
      intro H locs ls hP hD hS hL
      exact lv_aload hx hbb hdg (hL.at hlx) (kk ad (fun _ _ => rfl) H locs ls hP hD hS hL)
    · cases h
  | astore_n n =>
    dsimp only at h hI
    obtain ⟨rfl, hv, ha⟩ := of_decide_eq_true hI
    split at h
    · rename_i x r
      split at h
      · cases h
      · rename_i hh
        cases h
        intro H locs ls hP hD hS hL
        exact lv_astore_n hx hbb hdg hv hL.2 ha rfl (fun ls' hl' => kk ad (fun _ _ => rfl) H locs ls' hP hD hS (hL.st1 (v := .ref x) hh hl'))
    · cases h
  | iconst n =>
    dsimp only at h hI
    obtain ⟨rfl, hv⟩ := of_decide_eq_true hI
    cases h
    intro H locs ls hP hD hS hL
    exact lv_iconst hx hbb hdg hv (kk ad (fun _ _ => rfl) H locs ls hP hD hS hL)
  | bipush n =>
    dsimp only at h hI
    obtain ⟨rfl, hv⟩ := of_decide_eq_true hI
    cases h
    intro H locs ls hP hD hS hL
    exact lv_bipush hx hbb hdg hv (kk ad (fun _ _ => rfl) H locs ls hP hD hS hL)
  | sipush n =>
    dsimp only at h hI
    obtain ⟨rfl, hv⟩ := of_decide_eq_true hI
    cases h
    intro H locs ls hP hD hS hL
    exact lv_sipush hx hbb hdg hv (kk ad (fun _ _ => rfl) H locs ls hP hD hS hL)
  | dup =>
    dsimp only at h hI
    obtain rfl := of_decide_eq_true hI
    split at h
    · cases h
      intro H locs ls hP hD hS hL
      exact lv_dup hx hbb hdg rfl (kk ad (fun _ _ => rfl) H locs ls hP hD hS hL)
    · cases h
  | new i =>
    dsimp only at h hI
    simp only [Bool.and_eq_true] at hI
    obtain ⟨g1, g2⟩ := hI
    obtain rfl := of_decide_eq_true g1
    obtain ⟨hcl, ha⟩ := in_cl g2
    cases h
    intro H locs ls hP hD hS hL
    have hsz : eSz (E ++ [(0, a, dfl a, [])]) = eSz E + NF a := by rw [eSz_app]; show eSz E + (dfl a).length = _; rw [dfl_len]
    have hln : (E ++ [((0, a, dfl a, []) : PE)]).length = E.length + 1 := by simp
    rw [hsz] at h6
    rw [hln] at h5
    refine va_new (ci := a) (fs := (dfl a).map (cv ad)) (C := cn a) (T := FT a) (N := NF a) hx hbb hts (u_in ha) (fty a) (ty_in ha) hown (hts _ hcl) (hts _ (tb_of (of_decide_eq_true (all_rg inl_ok ha)) rfl)) (hts _ (in_ini (by omega))) hK hP hD hS hA (cls_at ha) (dfl_at ha) (by omega) (by omega) hdg (fun q H1 hP1 hD1 hS1 => ?_)
    have hag : ∀ i, i < E.length → va_up ad E.length q i = ad i := fun i hi => va_up_ne _ _ (by omega)
    have hd0 : ((0, a, dfl a, []) : PE).2.2.1.all (okR E.length) = true := by
      refine List.all_eq_true.mpr (fun v hv => ?_)
      obtain ⟨j, hj⟩ := List.getElem?_of_mem hv
      have hjl : j < NF a := by rw [← dfl_len]; exact (List.getElem?_eq_some_iff.mp hj).1
      have hz := all_rg (all_rg dfl_ok ha) hjl
      simp only [Bool.and_eq_true] at hz
      have hz := hz.2
      rw [List.getD_eq_getElem?_getD, hj] at hz
      cases v <;> first | rfl | skip
      exact absurd (Nat.le_of_ble_eq_true hz) (by omega)
    have hpu := wE_push (cI := cI) (cZ := cZ) (ad := ad) (q := q) (e := (0, a, dfl a, [])) hE hd0
    rw [show cE cI cZ ad ((0, a, dfl a, []) : PE) = .inr (a, (dfl a).map (cv ad)) from rfl] at hpu
    rw [hpu] at hP1 hD1
    have hk := kk (va_up ad E.length q) hag H1 locs ls hP1 hD1 hS1 (hL.ag hag hlv)
    rw [hsz, hln] at hk
    have hstk : (Value.ref E.length :: st).map (cv (va_up ad E.length q)) = .ref q :: st.map (cv ad) := by
      rw [List.map_cons, st_ag hag hst]
      show Value.ref (va_up ad E.length q E.length) :: _ = _
      rw [va_up_self]
    rw [hstk] at hk
    exact W.cs (by omega) (by omega) hk
  | newarray t =>
    dsimp only at h hI
    obtain ⟨rfl, ht⟩ := of_decide_eq_true hI
    split at h
    · rename_i n r
      split at h
      · cases h
      · rename_i hbn
        cases h
        simp only [Bool.or_eq_false_iff] at hbn
        have hn0 : ¬ n < 0 := of_decide_eq_false hbn.1
        have hnb : n.toNatClampNeg ≤ 100000 := Nat.not_lt.mp (fun z => by rw [show Nat.blt 100000 n.toNatClampNeg = true from Nat.ble_eq_true_of_le z] at hbn; cases hbn.2)
        intro H locs ls hP hD hS hL
        have hln : (E ++ [((d, n.toNatClampNeg, [], []) : PE)]).length = E.length + 1 := by simp
        have hsz : eSz (E ++ [(d, n.toNatClampNeg, [], [])]) = eSz E + n.toNatClampNeg := by
          rw [eSz_app]
          rcases ht with ⟨-, rfl⟩ | ⟨-, rfl⟩ <;> rfl
        rw [hsz] at h6
        rw [hln] at h5
        have hst2 : r.all (okR E.length) = true := List.all_eq_true.mpr (fun v hv => List.all_eq_true.mp hst v (List.mem_cons_of_mem _ hv))
        have fin : ∀ (q : Nat) (H1 : Heap), va_P (dC, dI) cls (wE cI cZ ad E ++ [(q, cE cI cZ ad (d, n.toNatClampNeg, [], []))]) H1 → va_D A (wE cI cZ ad E ++ [(q, cE cI cZ ad (d, n.toNatClampNeg, [], []))]) → va_S A s.heap H1 locs → W p l e R s m args below meth c H1 locs (E.length - n0 + 1) (eSz E - s0 + n.toNatClampNeg) QQ (F0 m (pc + 2) ls (.ref q :: r.map (cv ad))) := by
          intro q H1 hP1 hD1 hS1
          have hag : ∀ i, i < E.length → va_up ad E.length q i = ad i := fun i hi => va_up_ne _ _ (by omega)
          rw [wE_push (q := q) hE rfl] at hP1 hD1
          have hk := kk (va_up ad E.length q) hag H1 locs ls hP1 hD1 hS1 (hL.ag hag hlv)
          rw [hsz, hln] at hk
          have hstk : (Value.ref E.length :: r).map (cv (va_up ad E.length q)) = .ref q :: r.map (cv ad) := by
            rw [List.map_cons, st_ag hag hst2]
            show Value.ref (va_up ad E.length q E.length) :: _ = _
            rw [va_up_self]
          rw [hstk] at hk
          exact W.cs (by omega) (by omega) hk
        rcases ht with ⟨rfl, rfl⟩ | ⟨rfl, rfl⟩
        · refine va_newa (ty := .int) (a0 := (n.toNatClampNeg, .inl (fI []))) hx hbb (hts _ (tb_of arc_ok.1 rfl)) rfl hK hP hD hS hA (fun _ => rfl) hn0 rfl (by show n.toNatClampNeg * 4 ≤ 536870912; omega) (by omega) (by omega) hdg (fun q cA' H1 hK1 hP1 hD1 hS1 => ?_)
          have e1 : s.vm.findClass ("[" ++ FieldType.int.toString) = some cA' := (hK1.2 2 (cA', .int) rfl).2
          have e2 : s.vm.findClass ("[" ++ FieldType.int.toString) = some cI := (hK1.2 0 (cI, .int) rfl).2
          obtain rfl : cA' = cI := Option.some.inj (e1.symm.trans e2)
          exact fin q H1 hP1 hD1 hS1
        · refine va_newa (ty := .boolean) (a0 := (n.toNatClampNeg, .inl (fI []))) hx hbb (hts _ (tb_of arc_ok.2 rfl)) rfl hK hP hD hS hA (fun _ => rfl) hn0 rfl (by show n.toNatClampNeg * 1 ≤ 536870912; omega) (by omega) (by omega) hdg (fun q cA' H1 hK1 hP1 hD1 hS1 => ?_)
          have e1 : s.vm.findClass ("[" ++ FieldType.boolean.toString) = some cA' := (hK1.2 2 (cA', .boolean) rfl).2
          have e2 : s.vm.findClass ("[" ++ FieldType.boolean.toString) = some cZ := (hK1.2 1 (cZ, .boolean) rfl).2
          obtain rfl : cA' = cZ := Option.some.inj (e1.symm.trans e2)
          exact fin q H1 hP1 hD1 hS1
    · cases h
  | putfield i =>
    dsimp only at h hI
    simp only [Bool.and_eq_true] at hI
    obtain ⟨⟨g1, g2⟩, g3⟩ := hI
    obtain rfl := of_decide_eq_true g1
    obtain rfl := of_decide_eq_true g3
    obtain ⟨hw, ha, hbk⟩ := in_fl g2
    split at h
    · rename_i v cl r
      split at h
      · rename_i ci fs f hEc
        split at h
        · rename_i hcnd
          cases h
          simp only [Bool.and_eq_true] at hcnd
          obtain ⟨⟨hci, hbl⟩, hty⟩ := hcnd
          have hci := Nat.eq_of_beq_eq_true hci
          subst hci
          have hbl : b < fs.length := Nat.le_of_ble_eq_true hbl
          have hcl : cl < E.length := (List.getElem?_eq_some_iff.mp hEc).1
          intro H locs ls hP hD hS hL
          obtain ⟨hnr, hft⟩ := tyV_ok (ad := ad) hty
          have hent : (wE cI cZ ad E)[cl]? = some (ad cl, .inr (ci, fs.map (cv ad))) := wE_at hEc
          have fin : ∀ (H1 : Heap) (locs1 : List Loc), va_P (dC, dI) cls ((wE cI cZ ad E).set cl (ad cl, .inr (ci, (fs.map (cv ad)).set b (cv ad v)))) H1 → va_D A ((wE cI cZ ad E).set cl (ad cl, .inr (ci, (fs.map (cv ad)).set b (cv ad v)))) → va_S A s.heap H1 locs1 → W p l e R s m args below meth c H1 locs1 (E.length - n0) (eSz E - s0) QQ (F0 m (pc + 3) ls (st'.map (cv ad))) := by
            intro H1 locs1 hP1 hD1 hS1
            have hset : (wE cI cZ ad E).set cl (ad cl, .inr (ci, (fs.map (cv ad)).set b (cv ad v))) = wE cI cZ ad (E.set cl (0, ci, fs.set b v, f)) := by
              rw [← List.map_set]
              exact wE_set (e := (0, ci, fs.set b v, f)) hcl
            rw [hset] at hP1 hD1
            have hk := kk ad (fun _ _ => rfl) H1 locs1 ls hP1 hD1 hS1 hL
            exact W.widen (by rw [List.length_set]; exact Nat.le_refl _) (by omega) hk
          by_cases hfin : (FT ci b).2.2.2 = true
          · exact va_putF (v := cv ad v) (ty := fty ci b) (C := cn ci) (T := FT ci) (N := NF ci) hx hbb hts (u_in ha) (fty ci) (ty_in ha) (nm_in ha) hown hK hP hD hS cl hent (cls_at ha) b hbk (hts _ hw) (fun _ z => z) hfin (hin ha) rfl (ty_in ha b hbk) hnr hft (by rw [List.length_map]; exact hbl) hdg fin
          · exact va_put (v := cv ad v) (ty := fty ci b) (C := cn ci) (T := FT ci) (N := NF ci) hx hbb hts (u_in ha) (fty ci) (ty_in ha) (nm_in ha) hown hK hP hD hS cl hent (cls_at ha) b hbk (hts _ hw) (fun _ z => z) (Bool.eq_false_iff.mpr hfin) (ty_in ha b hbk) hnr hft (by rw [List.length_map]; exact hbl) hdg fin
        · cases h
      · cases h
    · cases h
  | getfield i =>
    dsimp only at h hI
    unfold okI at hI
    dsimp only at hI
    simp only [Bool.and_eq_true] at hI
    obtain ⟨g1, g2⟩ := hI
    obtain rfl := of_decide_eq_true g1
    obtain ⟨hw, ha, hbk⟩ := in_fl g2
    split at h
    · rename_i cl r
      split at h
      · rename_i ci fs f hEc
        split at h
        · rename_i x hci hfb
          cases h
          have hci := Nat.eq_of_beq_eq_true hci
          subst hci
          intro H locs ls hP hD hS hL
          have hent : (wE cI cZ ad E)[cl]? = some (ad cl, .inr (ci, fs.map (cv ad))) := wE_at hEc
          exact va_get (v := .ref (ad x)) (C := cn ci) (T := FT ci) (N := NF ci) hx hbb hts (u_in ha) hown hK hP cl hent (cls_at ha) b hbk (hts _ hw) (fun _ z => z) (by rw [List.getElem?_map, hfb]; rfl) hdg (kk ad (fun _ _ => rfl) H locs ls hP hD hS hL)
        · cases h
      · cases h
    · cases h
  | iastore =>
    dsimp only at h hI
    obtain rfl := of_decide_eq_true hI
    split at h
    · rename_i x i cl r
      split at h
      · rename_i n fs f hEc
        split at h
        · cases h
        · rename_i hcnd
          cases h
          simp only [Bool.or_eq_false_iff] at hcnd
          have hvin : vp_in i n := by
            intro z
            rcases z with z | z
            · exact of_decide_eq_false hcnd.1 z
            · rw [Nat.ble_eq_true_of_le z] at hcnd; cases hcnd.2
          have hcl : cl < E.length := (List.getElem?_eq_some_iff.mp hEc).1
          intro H locs ls hP hD hS hL
          refine va_iast (f := fI f) (cA := cI) (n := n) hx hbb hK hP hD hS cl 0 (wE_at hEc) rfl hvin hdg (fun H1 locs1 hP1 hD1 hS1 => ?_)
          have hset : (wE cI cZ ad E).set cl (ad cl, .inl (cI, n, .inl (upd (fI f) i.toNatClampNeg x))) = wE cI cZ ad (E.set cl (1, n, fs, (i.toNatClampNeg, x) :: f)) := wE_set (e := (1, n, fs, (i.toNatClampNeg, x) :: f)) hcl
          rw [hset] at hP1 hD1
          have hk := kk ad (fun _ _ => rfl) H1 locs1 ls hP1 hD1 hS1 hL
          exact W.widen (by rw [List.length_set]; exact Nat.le_refl _) (by omega) hk
      · cases h
    · cases h
  | invokespecial i =>
    dsimp only at h hI
    simp only [Bool.and_eq_true, Bool.or_eq_true] at hI
    obtain ⟨g1, g2⟩ := hI
    obtain rfl := of_decide_eq_true g1
    split at h
    · rename_i ha
      have ha := Nat.eq_of_beq_eq_true ha
      subst ha
      have hoi : oit.any (fun q => decide (q.1 = own ∧ q.2.1 = i)) = true := by
        rcases g2 with g2 | g2
        · exact g2.2
        · have := of_decide_eq_true g2.1
          omega
      split at h
      · rename_i x r
        split at h
        · rename_i hcat
          have hcat := Nat.le_of_ble_eq_true hcat
          cases h
          intro H locs ls hP hD hS hL
          refine W.objInit hx hbb hown (hts _ (in_oi hoi)) (hts _ (tb_of obj_ok.2 rfl)) (hts _ (tb_of obj_ok.1 rfl)) rfl (hL.2.1.trans hmx.symm) rfl hdg (by omega) ?_ (kk ad (fun _ _ => rfl) H locs ls hP hD hS hL)
          have hcr : ((st'.map (cv ad)).map fun v => v.category).sum ≤ 8 := by rw [cv_cats]; exact hcat
          show 2 * 0 + ((st'.map (cv ad)).map fun v => v.category).sum + 12 ≤ R.locals
          omega
        · cases h
      · cases h
    · rename_i ha
      split at h
      · rename_i hcnd
        simp only [Bool.and_eq_true] at hcnd
        obtain ⟨hbl, hcat⟩ := hcnd
        have hbl := Nat.le_of_ble_eq_true hbl
        have hcat := Nat.le_of_ble_eq_true hcat
        split at h
        · rename_i E2 hs2
          cases h
          have ha100 : a ≠ 100 := fun z => by subst z; cases ha
          rcases g2 with g2 | ⟨g2, g3⟩
          · exact absurd (of_decide_eq_true g2.1) ha100
          · obtain ⟨haj, hba⟩ := of_decide_eq_true g2
            obtain ⟨hM, hr⟩ := hsub a _ E E' hs2 haj
            have hlk : kit.any (fun q => decide (q.1 = own ∧ q.2.1 = i ∧ q.2.2.1 = a)) = true ∨ va_Nw (.methodLinkNest (cn own) i (cY a) "TradeTests") s := by
              rcases g3 with g3 | g3
              · exact Or.inl g3.2
              · refine Or.inr ?_
                obtain ⟨⟨-, g4⟩, g5⟩ := g3
                obtain rfl := of_decide_eq_true g4
                obtain ⟨q, hq, h9⟩ := List.any_eq_true.mp g5
                obtain ⟨rfl, rfl⟩ := of_decide_eq_true h9
                exact hNw q hq
            exact call_c F haj hba hlk hM hbl hcat (by obtain ⟨x, as', h0⟩ := hr; rw [h0]; exact fun z => by cases z) hr hE hlv hst h1 h2 h3 h4 h5 h6 hdg kk
        · cases h
      · cases h
  | _ => cases h
end CSN
