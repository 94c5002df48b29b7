/-! the law from its entry, given the pure statement -/
set_option maxHeartbeats 4000000 in
set_option maxRecDepth 100000 in
theorem law_16 {p : Program} {e : Env} {s : State} {m : MethodId} {below : List Frame} {meth : Method} {c : Code} (l : Launch) {b L : Nat} {xs : Nat → Int32} (hPL : PureLaw) (hL : L ≤ 3072) (C0 : lw_At p s m meth c b L xs) {dC : Nat → ClassId} {dI : Nat → Nat → Nat} {cI cZ : ClassId} (hK : va_K (dC, dI) cls [(cI, .int), (cZ, .boolean)] s) {t0 t1 t2 : Nat} (z0 : va_Z (sC 0) (sM 0) "[I" (.ref t0) (fun q => s.heap.size ≤ q) s s.heap ∧ va_T .int t0 4 (fun i => .int ((sV 0).getD i 0)) (fun q => s.heap.size ≤ q) s s.heap) (z1 : va_Z (sC 1) (sM 1) "[I" (.ref t1) (fun q => s.heap.size ≤ q) s s.heap ∧ va_T .int t1 4 (fun i => .int ((sV 1).getD i 0)) (fun q => s.heap.size ≤ q) s s.heap) (z2 : va_Z (sC 2) (sM 2) "[I" (.ref t2) (fun q => s.heap.size ≤ q) s s.heap ∧ va_T .int t2 3 (fun i => .int ((sV 2).getD i 0)) (fun q => s.heap.size ≤ q) s s.heap)
    {ad : Nat → Nat} {H : Heap} {locs : List Loc} {ls : Array Slot} (hP : va_P (dC, dI) cls (wE cI cZ ad EF2) H) (hD : va_D (fun q => s.heap.size ≤ q) (wE cI cZ ad EF2)) (hS : va_S (fun q => s.heap.size ≤ q) s.heap H locs) (hl : lv_has ls 4 [(2, .ref (ad 49)), (1, .ref (ad 0)), (0, .ref b)]) :
    W p l e room_1 s m #[Value.ref b] below meth c H locs 85 4161 (lw_Z below #[Value.ref b] s) (F0 m 16 ls []) := by
  obtain ⟨hx, hb, hr, hml, hown, hts, hX, hbl, hlocks, hgv⟩ := C0
  have hscr := start_scr hX hbl
  have hsA : ∀ cN q, sAr (L, xs) cN = some q → va_T .int (adW ad t0 t1 t2 b cN) q.1 (fun j => .int (q.2 j)) (fun q => s.heap.size ≤ q) s s.heap := by
    intro cN q hq
    unfold sAr at hq
    split at hq
    · cases hq; exact z0.2
    · cases hq; exact z1.2
    · cases hq; exact z2.2
    · cases hq; exact hscr
    · cases hq
  have hCtx : Ctx dC dI cI cZ (adW ad t0 t1 t2 b) (L, xs) (fun q => s.heap.size ≤ q) s s.heap := by
    refine ⟨hK, start_nws hts, fun j hj => ?_, hsA⟩
    rcases (show j = 0 ∨ j = 1 ∨ j = 2 by omega) with rfl | rfl | rfl
    · exact z0.1
    · exact z1.1
    · exact z2.1
  have hPW : va_P (dC, dI) cls (wW cI cZ (adW ad t0 t1 t2 b) σ0) H := hP.sub alL (fm_of wE_wW)
  have hDW : va_D (fun q => s.heap.size ≤ q) (wW cI cZ (adW ad t0 t1 t2 b) σ0) := hD.sub alL alL_nd wE_wW
  have hAA : ∀ q, ADA (adW ad t0 t1 t2 b) q → (fun q => s.heap.size ≤ q) q := by
    rintro q ⟨cN, hc, rfl⟩
    exact hDW.2 cN _ (wW_at hc)
  have F : Frm p l room_1 s m #[Value.ref b] c 13 4 code dC dI cI cZ (adW ad t0 t1 t2 b) (L, xs) (fun q => s.heap.size ≤ q) 9 85 4161 (CDd CC dep 9) :=
    ⟨hx, hb, hml, hown, fun w hw => hts w (tb_tbl hw), hCtx, hAA, Nat.le_of_ble_eq_true rfl, Nat.le_of_ble_eq_true rfl, Nat.le_of_ble_eq_true rfl, Nat.le_of_ble_eq_true rfl, met_all l dC dI cI cZ _ _ 9⟩
  have hret : RetI p l e room_1 s m #[Value.ref b] below meth c code dC dI cI cZ (adW ad t0 t1 t2 b) (fun q => s.heap.size ≤ q) 85 4161 (lw_Z below #[Value.ref b] s) 2 (fun r _ => r = 1) := by
    refine ⟨fun pc x σ H locs ls _ _ hQ _ _ hS' hdg => ?_, fun pc σ H locs ls hz => by cases hz⟩
    subst hQ
    refine va_forget (fun q hq => hS'.2.2 q hq) ?_
    exact lw_ret hx hb hr hlocks hdg
  have hLH : LH (adW ad t0 t1 t2 b) 4 ls [some (.ref 1003), some (.ref 0), some (.ref 12), none] := by
    refine ⟨rfl, hl.1, hl.2.1, ?_⟩
    intro q hq
    refine hl.2.2 q ?_
    have e : prs (adW ad t0 t1 t2 b) [some (.ref 1003), some (.ref 0), some (.ref 12), none] = [(0, .ref b), (1, .ref (ad 0)), (2, .ref (ad 49))] := rfl
    rw [e] at hq
    simp only [List.mem_cons, List.not_mem_nil, or_false] at hq ⊢
    rcases hq with rfl | rfl | rfl
    · exact Or.inr (Or.inr rfl)
    · exact Or.inr (Or.inl rfl)
    · exact Or.inl rfl
  exact snd F hret (fun q hq => List.all_eq_true.mp ck_law q hq) (Ex_dep (fun q hq => List.all_eq_true.mp dep_law q hq) (hPL L xs hL)) H locs ls hPW hDW hS hLH
set_option maxHeartbeats 4000000 in
set_option maxRecDepth 100000 in
theorem whole_of (hPL : PureLaw) {p : Program} {e : Env} {s : State} {m : MethodId} {below : List Frame} {meth : Method} {c : Code} (l : Launch) {b L : Nat} {xs : Nat → Int32} (hL : L ≤ 3072) (C0 : lw_At p s m meth c b L xs) : W p l e room_1 s m #[Value.ref b] below meth c s.heap [] 0 0 (lw_Z below #[Value.ref b] s) (entryFrame m ([Value.ref b] : List Value).toArray 4) := by
  obtain ⟨hx, hb, hr, hml, hown, hts, hX, hbl, hlocks, hgv⟩ := id C0
  have hA : ∀ q : Nat, s.heap.size ≤ q → (fun q : Nat => s.heap.size ≤ q) q := fun _ h => h
  have htb : ∀ w ∈ TB, w.before #[Value.ref b] s = true := fun w hw => hts w (tb_tbl hw)
  obtain ⟨dC, dI, hKc⟩ := known_all hts
  obtain ⟨cI, hI1, hI2⟩ := arr_known (ty := .int) (Or.inl rfl) (hts _ (List.mem_of_getElem? arc_ok.1))
  obtain ⟨cZ, hZ1, hZ2⟩ := arr_known (ty := .boolean) (Or.inr rfl) (hts _ (List.mem_of_getElem? arc_ok.2))
  obtain ⟨t0, t1, t2, z0, z1, z2⟩ := start_sts hts hgv
  have hK : va_K (dC, dI) cls [(cI, .int), (cZ, .boolean)] s := by
    refine ⟨hKc, fun k q hq => ?_⟩
    match k, hq with
    | 0, hq => cases hq; exact ⟨hI1, hI2⟩
    | 1, hq => cases hq; exact ⟨hZ1, hZ2⟩
    | k + 2, hq => simp at hq
  have F : FrC p room_1 s m #[Value.ref b] meth c 13 4 code dC dI cI cZ (fun q => s.heap.size ≤ q) 2 := ⟨hx, hb, hml, hown, htb, hK, start_nwc hts, hA, Nat.le_of_ble_eq_true rfl, Nat.le_of_ble_eq_true rfl, fun z => absurd z (by omega)⟩
  have hS : va_S (fun q : Nat => s.heap.size ≤ q) s.heap s.heap [] := va_S.rf
  have hP : va_P (dC, dI) cls (wE cI cZ (fun _ => 0) []) s.heap := fun k q h => by simp [wE] at h
  have hD : va_D (fun q : Nat => s.heap.size ≤ q) (wE cI cZ (fun _ => 0) []) := ⟨fun i j p q h => by simp [wE] at h, fun k q h => by simp [wE] at h⟩
  have hl := lv_entry ([.ref b]) (n := 4) (Nat.le_of_ble_eq_true rfl)
  rw [lg_entry_eq]
  generalize (lg_sl ([.ref b]) ++ List.replicate (4 - (lg_sl ([.ref b])).length) Slot.unset).toArray = ls at hl ⊢
  have hl : lv_has ls 4 [(0, .ref b)] := hl
  obtain ⟨f1, f2, f3, f4, f5, f6, f7⟩ := ef_sz
  -- the class
  obtain ⟨hcl, ha⟩ := in_cl law_cl.1
  refine va_new (ci := 0) (fs := (dfl 0).map (cv (fun _ => 0))) (C := cn 0) (T := FT 0) (N := NF 0) hx hb htb (u_in ha) (fty 0) (ty_in ha) hown (htb _ hcl) (htb _ (tb_of (of_decide_eq_true (all_rg inl_ok ha)) rfl)) (htb _ (in_ini (by omega))) hK hP hD hS hA (cls_at ha) (dfl_at ha) (Nat.le_of_ble_eq_true rfl) (Nat.le_of_ble_eq_true rfl) dl_0 (fun q0 H hP hD hS => ?_)
  refine lv_dup hx hb dl_3 rfl ?_
  have hP : va_P (dC, dI) cls (wE cI cZ (va_up (fun _ => 0) 0 q0) [(0, 0, dfl 0, [])]) H := hP
  have hD : va_D (fun q : Nat => s.heap.size ≤ q) (wE cI cZ (va_up (fun _ => 0) 0 q0) [(0, 0, dfl 0, [])]) := hD
  obtain ⟨hM0, hr0⟩ := s2_met (l := l) (dC := dC) (dI := dI) (cI := cI) (cZ := cZ) 0 [.ref 0] [(0, 0, dfl 0, [])] EF1 s2_0 (by omega)
  refine call_c0 (E := [(0, 0, dfl 0, [])]) (E' := EF1) (n0 := 0) (s0 := 0) (b := 1) (st := [.ref 0, .ref 0]) (ad := va_up (fun _ => 0) 0 q0) F (j := 0) (by omega) rfl (Or.inl law_cl.2.2.1) hM0 (Nat.le_of_ble_eq_true rfl) (Nat.le_of_ble_eq_true rfl) (by intro z; cases z) hr0 rfl (Nat.zero_le _) (Nat.zero_le _) (Nat.le_of_ble_eq_true rfl) (Nat.le_of_ble_eq_true rfl) (Nat.le_of_ble_eq_true rfl) (Nat.le_of_ble_eq_true rfl) dl_4 hl.1 hP hD hS (fun ad1 H locs hag1 hP hD hS => ?_)
  refine lv_astore_n (lv' := [(1, .ref (ad1 0)), (0, .ref b)]) hx hb dl_7 rfl hl (by decide) rfl (fun ls hl => ?_)
  -- the model
  obtain ⟨hcl, ha⟩ := in_cl law_cl.2.1
  refine va_new (ci := 12) (fs := (dfl 12).map (cv ad1)) (C := cn 12) (T := FT 12) (N := NF 12) hx hb htb (u_in ha) (fty 12) (ty_in ha) hown (htb _ hcl) (htb _ (tb_of (of_decide_eq_true (all_rg inl_ok ha)) rfl)) (htb _ (in_ini (by omega))) hK hP hD hS hA (cls_at ha) (dfl_at ha) (Nat.le_of_ble_eq_true rfl) (Nat.le_of_ble_eq_true rfl) dl_8 (fun q1 H hP hD hS => ?_)
  refine lv_dup hx hb dl_11 rfl ?_
  have hpu := wE_push (cI := cI) (cZ := cZ) (ad := ad1) (E := EF1) (q := q1) (e := (0, 12, dfl 12, [])) (by rw [f1]; exact f5) rfl
  rw [show cE cI cZ ad1 ((0, 12, dfl 12, []) : PE) = .inr (12, (dfl 12).map (cv ad1)) from rfl] at hpu
  rw [hpu] at hP hD
  have hag2 : ∀ i, i < EF1.length → va_up ad1 EF1.length q1 i = ad1 i := fun i hi => va_up_ne _ _ (by omega)
  generalize hg : va_up ad1 EF1.length q1 = ad2 at hP hD hag2
  have h49 : ad2 49 = q1 := by rw [← hg, f1]; exact va_up_self _ _ _
  obtain ⟨hM1, hr1⟩ := s2_met (l := l) (dC := dC) (dI := dI) (cI := cI) (cZ := cZ) 12 [.ref 49] (EF1 ++ [(0, 12, dfl 12, [])]) EF2 s2_12 (by omega)
  rw [← h49]
  refine W.cs (cells' := (EF1 ++ [((0, 12, dfl 12, []) : PE)]).length - 0) (slots' := eSz (EF1 ++ [(0, 12, dfl 12, [])]) - 0) (by decide +kernel) (by decide +kernel) ?_
  refine call_c0 (E := EF1 ++ [(0, 12, dfl 12, [])]) (E' := EF2) (n0 := 0) (s0 := 0) (b := 1) (st := [.ref 49, .ref 49]) (ad := ad2) F (j := 12) (by omega) rfl (Or.inl law_cl.2.2.2) hM1 (Nat.le_of_ble_eq_true rfl) (Nat.le_of_ble_eq_true rfl) (by intro z; cases z) hr1 (by decide +kernel) (Nat.zero_le _) (Nat.zero_le _) (by decide +kernel) (by decide +kernel) (by decide +kernel) (by decide +kernel) dl_12 hl.1 hP hD hS (fun ad3 H locs hag3 hP hD hS => ?_)
  have h0 : ad3 0 = ad1 0 := (hag3 0 (by decide +kernel)).trans (hag2 0 (by decide +kernel))
  refine lv_astore_n (lv' := [(2, .ref (ad3 49)), (1, .ref (ad1 0)), (0, .ref b)]) hx hb dl_15 rfl hl (by decide) rfl (fun ls hl => ?_)
  rw [← h0] at hl
  refine W.cs (cells' := 85) (slots' := 4161) (by rw [f3]) (by rw [f4]) ?_
  exact law_16 l hPL hL C0 hK z0 z1 z2 hP hD hS hl
