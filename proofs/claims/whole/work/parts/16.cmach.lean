/-! the machine of constructors: straight code over a list of cells; references are places in the list -/
def pSz (e : PE) : Nat := match e with
  | (0, _, fs, _) => fs.length
  | (_, n, _, _) => n
def eSz (E : List PE) : Nat := (E.map pSz).sum
theorem eSz_app (E : List PE) (e : PE) : eSz (E ++ [e]) = eSz E + pSz e := by simp [eSz]
def fI : List (Nat × Int32) → Nat → Int32
  | [] => fun _ => 0
  | q :: r => upd (fI r) q.1 q.2
def cE (cI cZ : ClassId) (ad : Nat → Nat) (e : PE) : va_E := match e with
  | (0, ci, fs, _) => .inr (ci, fs.map (cv ad))
  | (1, n, _, f) => .inl (cI, n, .inl (fI f))
  | (_, n, _, f) => .inl (cZ, n, .inl (fI f))
def wE (cI cZ : ClassId) (ad : Nat → Nat) (E : List PE) : va_W := E.zipIdx.map (fun q => (ad q.2, cE cI cZ ad q.1))
theorem wE_at {cI cZ : ClassId} {ad : Nat → Nat} {E : List PE} {k : Nat} {e : PE} (h : E[k]? = some e) : (wE cI cZ ad E)[k]? = some (ad k, cE cI cZ ad e) := by simp [wE, h]
theorem wE_len {cI cZ : ClassId} {ad : Nat → Nat} {E : List PE} : (wE cI cZ ad E).length = E.length := by simp [wE]
theorem wE_no {cI cZ : ClassId} {ad : Nat → Nat} {E : List PE} {k : Nat} (h : E.length ≤ k) : (wE cI cZ ad E)[k]? = none := List.getElem?_eq_none (by rw [wE_len]; exact h)
def okR (n : Nat) (v : Value) : Bool := match v with
  | .ref k => Nat.blt k n
  | _ => true
def okEs (n : Nat) (E : List PE) : Bool := E.all (fun e => e.2.2.1.all (okR n))
def okLV (n : Nat) (lv : LV) : Bool := lv.all (fun o => match o with | some v => okR n v | none => true)
theorem cv_ag {ad ad' : Nat → Nat} {n : Nat} (h : ∀ i, i < n → ad' i = ad i) {v : Value} (hv : okR n v = true) : cv ad' v = cv ad v := by
  cases v <;> first | rfl | skip
  rename_i k
  have hk : k < n := Nat.le_of_ble_eq_true hv
  show Value.ref (ad' k) = Value.ref (ad k)
  rw [h k hk]
theorem cE_ag {cI cZ : ClassId} {ad ad' : Nat → Nat} {n : Nat} (h : ∀ i, i < n → ad' i = ad i) {e : PE} (he : e.2.2.1.all (okR n) = true) : cE cI cZ ad' e = cE cI cZ ad e := by
  obtain ⟨t, ci, fs, f⟩ := e
  unfold cE
  split
  · rename_i heq
    cases heq
    have hm : List.map (cv ad') fs = List.map (cv ad) fs := List.map_congr_left (fun v hv => cv_ag h (List.all_eq_true.mp he v hv))
    rw [hm]
  · rfl
  · rfl
theorem wE_ag {cI cZ : ClassId} {ad ad' : Nat → Nat} {n : Nat} (h : ∀ i, i < n → ad' i = ad i) {E : List PE} (hE : okEs n E = true) (hn : E.length ≤ n) : wE cI cZ ad' E = wE cI cZ ad E := by
  apply List.ext_getElem?
  intro k
  cases he : E[k]? with
  | none =>
    have hk : E.length ≤ k := List.getElem?_eq_none_iff.mp he
    rw [wE_no hk, wE_no hk]
  | some e =>
    rw [wE_at he, wE_at he, h k (Nat.lt_of_lt_of_le (List.getElem?_eq_some_iff.mp he).1 hn), cE_ag h (List.all_eq_true.mp hE e (List.mem_of_getElem? he))]
theorem wE_push {cI cZ : ClassId} {ad : Nat → Nat} {E : List PE} {q : Nat} {e : PE} (hE : okEs E.length E = true) (he : e.2.2.1.all (okR E.length) = true) : wE cI cZ ad E ++ [(q, cE cI cZ ad e)] = wE cI cZ (va_up ad E.length q) (E ++ [e]) := by
  have hag : ∀ i, i < E.length → va_up ad E.length q i = ad i := fun i hi => va_up_ne _ _ (by omega)
  apply List.ext_getElem?
  intro k
  rcases Nat.lt_trichotomy k E.length with hk | hk | hk
  · obtain ⟨x, hx⟩ : ∃ x, E[k]? = some x := ⟨_, List.getElem?_eq_getElem hk⟩
    rw [List.getElem?_append_left (by rw [wE_len]; exact hk), wE_at hx, wE_at (by rw [List.getElem?_append_left hk]; exact hx), hag k hk, cE_ag hag (List.all_eq_true.mp hE x (List.mem_of_getElem? hx))]
  · subst hk
    rw [List.getElem?_append_right (by rw [wE_len]; exact Nat.le_refl _), wE_len, Nat.sub_self, wE_at (e := e) (by simp), va_up_self, cE_ag hag he]
    rfl
  · rw [List.getElem?_eq_none (by rw [List.length_append, wE_len]; simp; omega), wE_no (by simp; omega)]
theorem wE_set {cI cZ : ClassId} {ad : Nat → Nat} {E : List PE} {k : Nat} {e : PE} (hk : k < E.length) : (wE cI cZ ad E).set k (ad k, cE cI cZ ad e) = wE cI cZ ad (E.set k e) := by
  apply List.ext_getElem?
  intro j
  by_cases hj : j = k
  · subst hj
    rw [List.getElem?_set_self (by rw [wE_len]; exact hk), wE_at (e := e) (List.getElem?_set_self hk)]
  · rw [List.getElem?_set_ne (Ne.symm hj)]
    cases he : E[j]? with
    | none =>
      have h1 : E.length ≤ j := List.getElem?_eq_none_iff.mp he
      rw [wE_no h1, wE_no (by rw [List.length_set]; exact h1)]
    | some x => rw [wE_at he, wE_at (by rw [List.getElem?_set_ne (Ne.symm hj)]; exact he)]
theorem LH.ag {ad ad' : Nat → Nat} {nL n : Nat} {ls : Array Slot} {lv : LV} (hL : LH ad nL ls lv) (h : ∀ i, i < n → ad' i = ad i) (hlv : okLV n lv = true) : LH ad' nL ls lv := by
  refine ⟨hL.1, hL.2.1, hL.2.2.1, ?_⟩
  rintro ⟨i, w⟩ hq
  obtain ⟨v, h1, rfl⟩ := prs_mem.mp hq
  have h2 := List.all_eq_true.mp hlv _ (List.mem_of_getElem? h1)
  rw [cv_ag h h2]
  exact hL.2.2.2 _ (prs_mem.mpr ⟨v, h1, rfl⟩)
theorem st_ag {ad ad' : Nat → Nat} {n : Nat} {st : List Value} (h : ∀ i, i < n → ad' i = ad i) (hst : st.all (okR n) = true) : st.map (cv ad') = st.map (cv ad) := List.map_congr_left (fun v hv => cv_ag h (List.all_eq_true.mp hst v hv))
def tyV (t : FieldType) (v : Value) : Bool := match t, v with
  | .int, .int _ => true
  | .object _, .ref _ => true
  | .array _, .ref _ => true
  | _, _ => false
theorem tyV_ok {ad : Nat → Nat} {t : FieldType} {v : Value} (h : tyV t v = true) : narrow t (cv ad v) = cv ad v ∧ fits t (cv ad v) = true := by
  unfold tyV at h
  split at h
  · exact ⟨rfl, rfl⟩
  · exact ⟨rfl, rfl⟩
  · exact ⟨rfl, rfl⟩
  · cases h
def cst (sub : Nat → List Value → List PE → Option (List PE)) (q : CE) (lv : LV) (st : List Value) (E : List PE) : Option (LV × List Value × List PE) := match q with
  | (_, _, ins, imm, a, b, d, _) => (match ins with
    | .aload_n _ => (match lv[a]? with | some (some (.ref x)) => some (lv, .ref x :: st, E) | _ => none)
    | .aload _ => (match lv[a]? with | some (some (.ref x)) => some (lv, .ref x :: st, E) | _ => none)
    | .astore_n _ => (match st with | .ref x :: r => (match hitL lv a with | true => none | false => some (lv.set a (some (.ref x)), r, E)) | _ => none)
    | .iconst _ => some (lv, .int imm :: st, E)
    | .bipush _ => some (lv, .int imm :: st, E)
    | .sipush _ => some (lv, .int imm :: st, E)
    | .dup => (match st with | .ref x :: r => some (lv, .ref x :: .ref x :: r, E) | _ => none)
    | .new _ => some (lv, .ref E.length :: st, E ++ [(0, a, dfl a, [])])
    | .newarray _ => (match st with | .int n :: r => (match decide (n < 0) || Nat.blt 100000 n.toNatClampNeg with | true => none | false => some (lv, .ref E.length :: r, E ++ [(d, n.toNatClampNeg, [], [])])) | _ => none)
    | .putfield _ => (match st with
      | v :: .ref c :: r => (match E[c]? with
        | some (0, ci, fs, f) => (match Nat.beq ci a && Nat.blt b fs.length && tyV (fty a b) v with | true => some (lv, r, E.set c (0, ci, fs.set b v, f)) | false => none)
        | _ => none)
      | _ => none)
    | .getfield _ => (match st with
      | .ref c :: r => (match E[c]? with
        | some (0, ci, fs, _) => (match Nat.beq ci a, fs[b]? with | true, some (.ref x) => some (lv, .ref x :: r, E) | _, _ => none)
        | _ => none)
      | _ => none)
    | .iastore => (match st with
      | .int x :: .int i :: .ref c :: r => (match E[c]? with
        | some (1, n, fs, f) => (match decide (i < 0) || Nat.ble n i.toNatClampNeg with | true => none | false => some (lv, r, E.set c (1, n, fs, (i.toNatClampNeg, x) :: f)))
        | _ => none)
      | _ => none)
    | .invokespecial _ => (match Nat.beq a 100 with
      | true => (match st with | .ref _ :: r => (match Nat.ble (cats r) 8 with | true => some (lv, r, E) | false => none) | _ => none)
      | false => (match Nat.ble b st.length && Nat.ble (cats (st.drop b)) 8 with
        | true => (match sub a (st.take b).reverse E with | some E' => some (lv, st.drop b, E') | none => none)
        | false => none))
    | _ => none)
def isRet (i : Instr) : Bool := match i with
  | .return_ => true
  | _ => false
/-- n0 cells of s0 places at the start, L1 of S1 at the end; stop: a place where the run ends too -/
def crun (sub : Nat → List Value → List PE → Option (List PE)) (cd : List CE) (n0 s0 L1 S1 : Nat) : Nat → Nat → LV → List Value → List PE → Option (List PE)
  | 0, _, _, _, _ => none
  | n + 1, pc, lv, st, E => (match okEs E.length E && okLV E.length lv && st.all (okR E.length) && Nat.ble n0 E.length && Nat.ble s0 (eSz E) with
    | false => none
    | true => (match fnd cd pc with
      | none => none
      | some q => (match isRet q.2.2.1 with
        | true => (match st with | [] => (match Nat.beq E.length L1 && Nat.beq (eSz E) S1 with | true => some E | false => none) | _ => none)
        | false => (match cst sub q lv st E with
          | none => none
          | some (lv', st', E') => (match Nat.ble E.length E'.length && Nat.ble (eSz E) (eSz E') && Nat.ble E'.length L1 && Nat.ble (eSz E') S1 with
            | true => crun sub cd n0 s0 L1 S1 n (pc + q.2.1) lv' st' E'
            | false => none)))))
/-- the check of a row of a constructor's code -/
def okC (own nL : Nat) (cc : ByteArray) (q : CE) : Bool := match q with
  | (pc, len, ins, imm, a, b, d, sw) => decide (decode cc pc = .ok (ins, len)) && (match ins with
    | .new i => decide (len = 3) && clt.any (fun q => decide (q.1 = own ∧ q.2.1 = i ∧ q.2.2.1 = a))
    | .newarray t => decide (len = 2 ∧ ((t = .int ∧ d = 1) ∨ (t = .boolean ∧ d = 2)))
    | .putfield i => decide (len = 3) && (match flt[d]? with | some q => decide (q.1 = own ∧ q.2.1 = i ∧ q.2.2.1 = a ∧ q.2.2.2.1 = b) | none => false) && decide (a = own)
    | .invokespecial i => decide (len = 3) && ((decide (a = 100) && oit.any (fun q => decide (q.1 = own ∧ q.2.1 = i))) || (decide (a < 13 ∧ b = cA a) && ((Nat.beq d 0 && kit.any (fun q => decide (q.1 = own ∧ q.2.1 = i ∧ q.2.2.1 = a))) || (Nat.beq d 1 && decide (own = 0) && knt.any (fun q => decide (q.1 = i ∧ q.2 = a))))))
    | _ => okI own nL pc len ins imm a b d sw)
set_option maxRecDepth 100000 in
theorem okC_all : ((List.range 13).all fun j => (cdcL.getD j []).all (okC j (cL j) (cB j))) = true := by decide +kernel
set_option maxRecDepth 100000 in
theorem okC_law : (cdc_law.all (okC 13 4 code)) = true := by decide +kernel
def sub1 (j : Nat) (as : List Value) (E : List PE) : Option (List PE) := match Nat.beq as.length (cA j) && as.all (okR E.length) && as.all (fun v => Nat.beq v.category 1) with
  | true => crun (fun _ _ _ => none) (cdcL.getD j []) E.length (eSz E) (E.length + (gro.getD j (0, 0)).1) (eSz E + (gro.getD j (0, 0)).2) 300 0 (as.map some ++ List.replicate (cL j - as.length) none) [] E
  | false => none
def sub2 (j : Nat) (as : List Value) (E : List PE) : Option (List PE) := match Nat.beq as.length (cA j) && as.all (okR E.length) && as.all (fun v => Nat.beq v.category 1) with
  | true => crun sub1 (cdcL.getD j []) E.length (eSz E) (E.length + (gro.getD j (0, 0)).1) (eSz E + (gro.getD j (0, 0)).2) 300 0 (as.map some ++ List.replicate (cL j - as.length) none) [] E
  | false => none
def eqV (v w : Value) : Bool := match v, w with
  | .int x, .int y => decide (x = y)
  | .ref a, .ref b => Nat.beq a b
  | .null, .null => true
  | _, _ => false
theorem eqV_ok {v w : Value} (h : eqV v w = true) : v = w := by
  unfold eqV at h
  split at h
  · rw [of_decide_eq_true h]
  · rw [Nat.eq_of_beq_eq_true h]
  · rfl
  · cases h
def eqL {α : Type} (f : α → α → Bool) : List α → List α → Bool
  | [], [] => true
  | a :: r, b :: t => f a b && eqL f r t
  | _, _ => false
theorem eqL_ok {α : Type} {f : α → α → Bool} (hf : ∀ a b, f a b = true → a = b) : ∀ {r t : List α}, eqL f r t = true → r = t
  | [], [], _ => rfl
  | a :: r, b :: t, h => by
    unfold eqL at h
    simp only [Bool.and_eq_true] at h
    rw [hf a b h.1, eqL_ok hf h.2]
  | [], _ :: _, h => by cases h
  | _ :: _, [], h => by cases h
def eqP (e f : PE) : Bool := Nat.beq e.1 f.1 && (Nat.beq e.2.1 f.2.1 && (eqL eqV e.2.2.1 f.2.2.1 && decide (e.2.2.2 = f.2.2.2)))
theorem eqP_ok {e f : PE} (h : eqP e f = true) : e = f := by
  unfold eqP at h
  simp only [Bool.and_eq_true] at h
  obtain ⟨h1, h2, h3, h4⟩ := h
  obtain ⟨a, b, c, d⟩ := e
  obtain ⟨a', b', c', d'⟩ := f
  have h1 : a = a' := Nat.eq_of_beq_eq_true h1
  have h2 : b = b' := Nat.eq_of_beq_eq_true h2
  have h3 : c = c' := eqL_ok (fun _ _ => eqV_ok) h3
  have h4 : d = d' := of_decide_eq_true h4
  rw [h1, h2, h3, h4]
def eqO (o : Option (List PE)) (E : List PE) : Bool := match o with
  | some F => eqL eqP F E
  | none => false
theorem eqO_ok {o : Option (List PE)} {E : List PE} (h : eqO o E = true) : o = some E := by
  unfold eqO at h
  split at h
  · rw [eqL_ok (fun _ _ => eqP_ok) h]
  · cases h
set_option maxRecDepth 100000 in
theorem sub2_0 : sub2 0 [.ref 0] [(0, 0, dfl 0, [])] = some EF1 := eqO_ok (by decide +kernel)
set_option maxRecDepth 100000 in
theorem sub2_12 : sub2 12 [.ref 49] (EF1 ++ [(0, 12, dfl 12, [])]) = some EF2 := eqO_ok (by decide +kernel)
