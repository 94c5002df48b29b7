/-! the world of the cells, the frame's facts, the check of a code table -/
def cv (ad : Nat → Nat) (v : Value) : Value := match v with
  | .ref k => .ref (ad k)
  | w => w
theorem cv_cat (ad : Nat → Nat) (v : Value) : (cv ad v).category = v.category := by cases v <;> rfl
theorem cv_cats (ad : Nat → Nat) (st : List Value) : ((st.map (cv ad)).map fun v => v.category).sum = cats st := by
  unfold cats
  rw [List.map_map]
  congr 1
  exact List.map_congr_left (fun v _ => cv_cat ad v)
def prs (ad : Nat → Nat) (lv : LV) : List (Nat × Value) := lv.zipIdx.filterMap (fun q => q.1.map (fun v => (q.2, cv ad v)))
theorem prs_mem {ad : Nat → Nat} {lv : LV} {i : Nat} {w : Value} : (i, w) ∈ prs ad lv ↔ ∃ v, lv[i]? = some (some v) ∧ w = cv ad v := by
  unfold prs
  rw [List.mem_filterMap]
  constructor
  · rintro ⟨⟨o, j⟩, h1, h2⟩
    rw [List.mem_zipIdx_iff_getElem?] at h1
    cases o with
    | none => simp at h2
    | some v =>
      simp at h2
      obtain ⟨rfl, rfl⟩ := h2
      exact ⟨v, h1, rfl⟩
  · rintro ⟨v, h1, rfl⟩
    exact ⟨(some v, i), by rw [List.mem_zipIdx_iff_getElem?]; exact h1, rfl⟩
def LH (ad : Nat → Nat) (nL : Nat) (ls : Array Slot) (lv : LV) : Prop := lv.length = nL ∧ lv_has ls nL (prs ad lv)
theorem LH.at {ad : Nat → Nat} {nL : Nat} {ls : Array Slot} {lv : LV} (h : LH ad nL ls lv) {i : Nat} {v : Value} (hi : lv[i]? = some (some v)) : ls[i]? = some (.val (cv ad v)) := h.2.2.2 (i, cv ad v) (prs_mem.mpr ⟨v, hi, rfl⟩)
theorem LH.st1 {ad : Nat → Nat} {nL : Nat} {ls ls' : Array Slot} {lv : LV} (h : LH ad nL ls lv) {a : Nat} {v : Value} (hh : hitL lv a = false) (h' : lv_has ls' nL ((a, cv ad v) :: (prs ad lv).filter (fun q => !(q.1 == a) && !(q.1 + 1 == a && q.2.category == 2)))) : LH ad nL ls' (lv.set a (some v)) := by
  refine ⟨by rw [List.length_set]; exact h.1, h'.1, h'.2.1, ?_⟩
  rintro ⟨i, w⟩ hq
  apply h'.2.2
  obtain ⟨u, h1, rfl⟩ := prs_mem.mp hq
  by_cases hi : i = a
  · subst hi
    have hl : i < lv.length := by
      have := (List.getElem?_eq_some_iff.mp h1).1
      rwa [List.length_set] at this
    rw [List.getElem?_set_self hl] at h1
    cases h1
    exact List.mem_cons_self
  · rw [List.getElem?_set_ne (Ne.symm hi)] at h1
    refine List.mem_cons_of_mem _ (List.mem_filter.mpr ⟨prs_mem.mpr ⟨u, h1, rfl⟩, ?_⟩)
    by_cases hj : i + 1 = a
    · subst hj
      have h3 : isL lv[i]? = false := hh
      rw [h1] at h3
      cases u <;> simp_all [isL, cv, Value.category]
    · simp [hi, hj]
theorem LH.st2 {ad : Nat → Nat} {nL : Nat} {ls ls' : Array Slot} {lv : LV} (h : LH ad nL ls lv) {a : Nat} {x : Int64} (hh : hitL lv a = false) (h' : lv_has ls' nL ((a, Value.long x) :: (prs ad lv).filter (fun q => !(q.1 == a) && (!(q.1 == a + 1) && !(q.1 + 1 == a && q.2.category == 2))))) : LH ad nL ls' ((lv.set (a + 1) none).set a (some (.long x))) := by
  refine ⟨by rw [List.length_set, List.length_set]; exact h.1, h'.1, h'.2.1, ?_⟩
  rintro ⟨i, w⟩ hq
  apply h'.2.2
  obtain ⟨u, h1, rfl⟩ := prs_mem.mp hq
  by_cases hi : i = a
  · subst hi
    have hl : i < (lv.set (i + 1) none).length := by
      have := (List.getElem?_eq_some_iff.mp h1).1
      rwa [List.length_set] at this
    rw [List.getElem?_set_self hl] at h1
    cases h1
    exact List.mem_cons_self
  · rw [List.getElem?_set_ne (Ne.symm hi)] at h1
    have hi1 : i ≠ a + 1 := by
      intro e
      subst e
      have hl : a + 1 < lv.length := by
        have := (List.getElem?_eq_some_iff.mp h1).1
        rwa [List.length_set] at this
      rw [List.getElem?_set_self hl] at h1
      cases h1
    rw [List.getElem?_set_ne (Ne.symm hi1)] at h1
    refine List.mem_cons_of_mem _ (List.mem_filter.mpr ⟨prs_mem.mpr ⟨u, h1, rfl⟩, ?_⟩)
    by_cases hj : i + 1 = a
    · subst hj
      have h3 : isL lv[i]? = false := hh
      rw [h1] at h3
      cases u <;> simp_all [isL, cv, Value.category]
    · simp [hi, hj, hi1]
def fvl (ad : Nat → Nat) (σ : St) (c : Nat) (o : Option Nat) (k : Nat) : Value := match o with
  | some r => .ref (ad r)
  | none => .int (σ c k)
def obF (ad : Nat → Nat) (σ : St) (c : Nat) (fs : List (Option Nat)) : List Value := fs.zipIdx.map (fun q => fvl ad σ c q.1 q.2)
def ent (cI cZ : ClassId) (ad : Nat → Nat) (σ : St) (c : Nat) : va_E := match lay[c]? with
  | some (0, ci, fs) => .inr (ci, obF ad σ c fs)
  | some (1, n, _) => .inl (cI, n, .inl (σ c))
  | some (_, n, _) => .inl (cZ, n, .inl (σ c))
  | none => .inr (0, [])
def wW (cI cZ : ClassId) (ad : Nat → Nat) (σ : St) : va_W := (List.range 85).map (fun c => (ad c, ent cI cZ ad σ c))
theorem lay_len : lay.length = 85 := rfl
theorem lay_lt {c : Nat} {x : Ly} (h : lay[c]? = some x) : c < 85 := by
  have := (List.getElem?_eq_some_iff.mp h).1
  rwa [lay_len] at this
theorem wW_at {cI cZ : ClassId} {ad : Nat → Nat} {σ : St} {c : Nat} (h : c < 85) : (wW cI cZ ad σ)[c]? = some (ad c, ent cI cZ ad σ c) := by
  simp [wW, h]
theorem obF_at {ad : Nat → Nat} {σ : St} {c : Nat} {fs : List (Option Nat)} {k : Nat} {o : Option Nat} (h : fs[k]? = some o) : (obF ad σ c fs)[k]? = some (fvl ad σ c o k) := by
  simp [obF, h]
theorem obF_len {ad : Nat → Nat} {σ : St} {c : Nat} {fs : List (Option Nat)} : (obF ad σ c fs).length = fs.length := by simp [obF]
theorem up_self (σ : St) (c i : Nat) (v : Int32) : up σ c i v c = upd (σ c) i v := by simp [up]
theorem up_ne (σ : St) {c c' : Nat} (i : Nat) (v : Int32) (h : c' ≠ c) : up σ c i v c' = σ c' := by simp [up, h]
theorem obF_set {ad : Nat → Nat} {σ : St} {c : Nat} {fs : List (Option Nat)} {k : Nat} {v : Int32} (h : fs[k]? = some none) : (obF ad σ c fs).set k (.int v) = obF ad (up σ c k v) c fs := by
  apply List.ext_getElem?
  intro j
  have hk := (List.getElem?_eq_some_iff.mp h).1
  by_cases hj : j = k
  · subst hj
    rw [List.getElem?_set_self (by rw [obF_len]; exact hk), obF_at h]
    simp [fvl, up_self, upd]
  · rw [List.getElem?_set_ne (Ne.symm hj)]
    cases ho : fs[j]? with
    | none =>
      have h1 : fs.length ≤ j := List.getElem?_eq_none_iff.mp ho
      rw [List.getElem?_eq_none (by rw [obF_len]; exact h1), List.getElem?_eq_none (by rw [obF_len]; exact h1)]
    | some o =>
      rw [obF_at ho, obF_at ho]
      cases o with
      | none => simp [fvl, up_self, upd, hj]
      | some r => rfl
theorem ent_congr {cI cZ : ClassId} {ad : Nat → Nat} {σ σ' : St} {c : Nat} (h : σ c = σ' c) : ent cI cZ ad σ c = ent cI cZ ad σ' c := by
  unfold ent
  split <;> first | rfl | (simp [obF, fvl, h]; done) | (rw [h])
theorem wW_set {cI cZ : ClassId} {ad : Nat → Nat} {σ : St} {c i : Nat} {v : Int32} {e : va_E} (hc : c < 85) (he : e = ent cI cZ ad (up σ c i v) c) : (wW cI cZ ad σ).set c (ad c, e) = wW cI cZ ad (up σ c i v) := by
  apply List.ext_getElem?
  intro j
  have hlen : (wW cI cZ ad σ).length = 85 := by simp [wW]
  by_cases hj : j = c
  · subst hj
    rw [List.getElem?_set_self (by rw [hlen]; exact hc), wW_at hc, he]
  · rw [List.getElem?_set_ne (Ne.symm hj)]
    by_cases hl : j < 85
    · rw [wW_at hl, wW_at hl, ent_congr (up_ne σ i v hj).symm]
    · rw [List.getElem?_eq_none (by rw [hlen]; omega), List.getElem?_eq_none (by simp [wW]; omega)]
def TB : List Cond := lw_tbl.filter goodWord
theorem tb_of {i : Nat} {w : Cond} (h : lw_tbl[i]? = some w) (hg : goodWord w = true) : w ∈ TB := List.mem_filter.mpr ⟨List.mem_of_getElem? h, hg⟩
theorem tb_good : GoodIn TB TB := fun w h => ⟨h, good_of_word (List.mem_filter.mp h).2⟩
theorem cls_at {c : Nat} (h : c < 13) : cls[c]? = some (cn c, FT c, NF c) := by simp [cls, h]
theorem all_rg {n : Nat} {f : Nat → Bool} (h : ((List.range n).all f) = true) {k : Nat} (hk : k < n) : f k = true := List.all_eq_true.mp h k (List.mem_range.mpr hk)
theorem u_in {c : Nat} (hc : c < 13) : ∀ w ∈ u_ws (cn c) (FT c) (NF c), w ∈ TB := by
  intro w hw
  obtain ⟨k, hk, rfl⟩ := List.mem_map.mp hw
  have h := all_rg (all_rg fpl_ok hc) (List.mem_range.mp hk)
  refine tb_of (of_decide_eq_true h) ?_
  unfold u_lay
  split <;> rfl
theorem ty_in {c : Nat} (hc : c < 13) : ∀ k, k < NF c → parseFieldDescriptor (FT c k).2.2.1 = some (fty c k) := fun k hk => of_decide_eq_true (all_rg (all_rg fty_ok hc) hk)
theorem nm_in {c : Nat} (hc : c < 13) : ∀ a, a < NF c → ∀ b, b < NF c → a ≠ b → (FT c a).2.1 ≠ (FT c b).2.1 := fun a ha b hb hab => (of_decide_eq_true (all_rg (all_rg (all_rg fnm_ok hc) ha) hb)).resolve_left hab
theorem mOk_all {k : Nat} (h : k < NM) : mOk k = true := by
  have h' : k < 195 := h
  rcases Nat.lt_or_ge k 20 with q | q
  · have := all_rg mOk_0 (k := k) (by omega); rwa [Nat.zero_add] at this
  rcases Nat.lt_or_ge k 40 with q2 | q2
  · have := all_rg mOk_1 (k := k - 20) (by omega); rwa [show 20 + (k - 20) = k by omega] at this
  rcases Nat.lt_or_ge k 60 with q3 | q3
  · have := all_rg mOk_2 (k := k - 40) (by omega); rwa [show 40 + (k - 40) = k by omega] at this
  rcases Nat.lt_or_ge k 80 with q4 | q4
  · have := all_rg mOk_3 (k := k - 60) (by omega); rwa [show 60 + (k - 60) = k by omega] at this
  rcases Nat.lt_or_ge k 100 with q5 | q5
  · have := all_rg mOk_4 (k := k - 80) (by omega); rwa [show 80 + (k - 80) = k by omega] at this
  rcases Nat.lt_or_ge k 120 with q6 | q6
  · have := all_rg mOk_5 (k := k - 100) (by omega); rwa [show 100 + (k - 100) = k by omega] at this
  rcases Nat.lt_or_ge k 140 with q7 | q7
  · have := all_rg mOk_6 (k := k - 120) (by omega); rwa [show 120 + (k - 120) = k by omega] at this
  rcases Nat.lt_or_ge k 160 with q8 | q8
  · have := all_rg mOk_7 (k := k - 140) (by omega); rwa [show 140 + (k - 140) = k by omega] at this
  rcases Nat.lt_or_ge k 180 with q9 | q9
  · have := all_rg mOk_8 (k := k - 160) (by omega); rwa [show 160 + (k - 160) = k by omega] at this
  · have := all_rg mOk_9 (k := k - 180) (by omega); rwa [show 180 + (k - 180) = k by omega] at this
/-- words of nest mates: they hold at every state of the run, but aren't steady words -/
def nwF0 : Cond := .fieldLinkNest "TradeTests$Vehicles" 25 "TradeTests" "DUE_DAYS" "[I" "TradeTests"
def nwF1 : Cond := .fieldLinkNest "TradeTests$Signals" 81 "TradeTests" "FAIR_MINUTES" "[I" "TradeTests"
def nwM0 : Cond := .methodLinkNest "TradeTests$Texts" 68 (mY 5) "TradeTests"
def nwM1 : Cond := .methodLinkNest "TradeTests$Penalties" 34 (mY 1) "TradeTests"
def Nws (U : State) : Prop := va_Nw nwF0 U ∧ va_Nw nwF1 U ∧ va_Nw nwM0 U ∧ va_Nw nwM1 U
theorem Nws.warm {s U : State} (hW : s.WarmedH U.vm) (h : Nws s) : Nws U := ⟨va_Nw.warmF hW h.1, va_Nw.warmF hW h.2.1, va_Nw.warmM hW h.2.2.1, va_Nw.warmM hW h.2.2.2⟩
theorem Nws.same {s U : State} (hv : s.vm = U.vm) (h : Nws s) : Nws U := ⟨va_Nw.same rfl hv h.1, va_Nw.same rfl hv h.2.1, va_Nw.same rfl hv h.2.2.1, va_Nw.same rfl hv h.2.2.2⟩
def ADA (ad : Nat → Nat) : Nat → Prop := fun q => ∃ c, c < 85 ∧ q = ad c
/-- what a frame knows beside its cells: at the state U, with the heap H -/
def Ctx (dC : Nat → ClassId) (dI : Nat → Nat → Nat) (cI cZ : ClassId) (ad : Nat → Nat) (sc : Nat × (Nat → Int32)) (A : Nat → Prop) (U : State) (H : Heap) : Prop :=
  va_K (dC, dI) cls [(cI, .int), (cZ, .boolean)] U ∧ Nws U ∧ (∀ j, j < 3 → va_Z (sC j) (sM j) "[I" (.ref (ad (1000 + j))) A U H) ∧ ∀ c q, sAr sc c = some q → va_T .int (ad c) q.1 (fun j => .int (q.2 j)) A U H
theorem Ctx.moved {dC : Nat → ClassId} {dI : Nat → Nat → Nat} {cI cZ : ClassId} {ad : Nat → Nat} {sc : Nat × (Nat → Int32)} {A B : Nat → Prop} {s U : State} {H : Heap} {locs : List Loc} (h : Ctx dC dI cI cZ ad sc A s s.heap) (hW : s.WarmedH U.vm) (hS : va_S A s.heap H locs) (hAB : ∀ q, B q → A q) (hU : U.heap = H) : Ctx dC dI cI cZ ad sc B U U.heap := by
  obtain ⟨h1, h2, h3, h4⟩ := h
  refine ⟨va_K.moved hW.alike h1, h2.warm hW, fun j hj => ?_, fun c q hq => ?_⟩
  · rw [hU]
    exact (((h3 j hj).kept hS.2.1).moved hW.alike).narrow hAB
  · rw [hU]
    exact (((h4 c q hq).kept hS.2.1).moved hW.alike).narrow hAB
def rmD (d : Nat) : Room := { frames := d, cells := 0, slots := 0, locals := 28 * d }
def wkK (k : Nat) : List Cond := .code (mY k) (mB k) (mL k) (mR k) :: TB
/-- the world of a contract -/
def WB (dC : Nat → ClassId) (dI : Nat → Nat → Nat) (cI cZ : ClassId) (ad : Nat → Nat) (sc : Nat × (Nat → Int32)) (σ : St) (U : State) : Prop :=
  va_P (dC, dI) cls (wW cI cZ ad σ) U.heap ∧ va_D (ADA ad) (wW cI cZ ad σ) ∧ Ctx dC dI cI cZ ad sc (ADA ad) U U.heap
/-- a contract's end -/
def QcK (dC : Nat → ClassId) (dI : Nat → Nat → Nat) (cI cZ : ClassId) (ad : Nat → Nat) (sc : Nat × (Nat → Int32)) (k : Nat) (Q : Int32 → St → Prop) : Array Value → State → Outcome → State → Prop :=
  match Nat.beq (mRk k) 0 with
  | true => va_Qv (fun σ' => Q 0 σ') (WB dC dI cI cZ ad sc) (ADA ad)
  | false => va_Qi Q (WB dC dI cI cZ ad sc) (ADA ad)
def MetK (l : Launch) (dC : Nat → ClassId) (dI : Nat → Nat → Nat) (cI cZ : ClassId) (ad : Nat → Nat) (sc : Nat × (Nat → Int32)) (C : CT) (k d : Nat) : Prop :=
  ∀ (as : List Value) (σ : St) (Q : Int32 → St → Prop), C k as σ Q → Met l (mY k) (wkK k) (rmD d) (va_Pc (as.map (cv ad)) (WB dC dI cI cZ ad sc σ)) (QcK dC dI cI cZ ad sc k Q) 0 0 (ADA ad)
/-- the check of a row of code -/
def okI (own nL pc len : Nat) (ins : Instr) (imm : Int32) (a b d : Nat) (sw : List (Int32 × Nat)) : Bool := match ins with
  | .iconst n => decide (len = 1 ∧ Int32.ofInt n = imm)
  | .bipush n => decide (len = 2 ∧ (Int8.ofInt n).toInt32 = imm)
  | .sipush n => decide (len = 3 ∧ (Int16.ofInt n).toInt32 = imm)
  | .ldc i => decide (len = 2) && kct.any (fun q => decide (q.1 = own ∧ q.2.1 = i ∧ q.2.2.1 = imm))
  | .ldc_w i => decide (len = 3) && kct.any (fun q => decide (q.1 = own ∧ q.2.1 = i ∧ q.2.2.1 = imm))
  | .lconst n => decide (len = 1 ∧ Int64.ofNat (n : Nat) = imm.toInt64)
  | .ldc2_w i => decide (len = 3 ∧ own = 12 ∧ i = 233 ∧ imm = 1000)
  | .iload_n n => decide (len = 1 ∧ (n : Nat) = a)
  | .iload i => decide (len = 2 ∧ i = a)
  | .aload_n n => decide (len = 1 ∧ (n : Nat) = a)
  | .aload i => decide (len = 2 ∧ i = a)
  | .lload_n n => decide (len = 1 ∧ (n : Nat) = a)
  | .lload i => decide (len = 2 ∧ i = a)
  | .istore_n n => decide (len = 1 ∧ (n : Nat) = a ∧ a < nL)
  | .istore i => decide (len = 2 ∧ i = a ∧ a < nL)
  | .astore_n n => decide (len = 1 ∧ (n : Nat) = a ∧ a < nL)
  | .astore i => decide (len = 2 ∧ i = a ∧ a < nL)
  | .lstore_n n => decide (len = 1 ∧ (n : Nat) = a ∧ a + 1 < nL)
  | .lstore i => decide (len = 2 ∧ i = a ∧ a + 1 < nL)
  | .iinc i n => decide (len = 3 ∧ i = a ∧ a < nL ∧ Int32.ofInt n = imm)
  | .goto o => decide (len = 3 ∧ (pc : Int) + o = (a : Int))
  | .ifCond _ o => decide (len = 3 ∧ (pc : Int) + o = (a : Int))
  | .if_icmp _ o => decide (len = 3 ∧ (pc : Int) + o = (a : Int))
  | .tableswitch f lo hi os => decide ((pc : Int) + f = (a : Int) ∧ lo = 0 ∧ hi + 1 = (os.size : Int) ∧ os.size < 1000 ∧ sw.length = os.size) && (List.range os.size).all (fun j => decide ((sw.getD j (0, 0)).1 = Int32.ofNat j ∧ (pc : Int) + os.getD j 0 = ((sw.getD j (0, 0)).2 : Int)))
  | .lookupswitch f ps => decide ((pc : Int) + f = (a : Int) ∧ (ps.toList.zip (ps.toList.drop 1)).all (fun (x, next) => x.1 < next.1) = true ∧ ps.toList.map (fun q => (q.1, (pc : Int) + q.2)) = sw.map (fun q => (q.1.toInt, (q.2 : Int))))
  | .getfield i => decide (len = 3) && (match flt[d]? with | some q => decide (q.1 = own ∧ q.2.1 = i ∧ q.2.2.1 = a ∧ q.2.2.2.1 = b) | none => false)
  | .putfield i => decide (len = 3) && (match flt[d]? with | some q => decide (q.1 = own ∧ q.2.1 = i ∧ q.2.2.1 = a ∧ q.2.2.2.1 = b ∧ (FT a b).2.2.2 = false ∧ fty a b = .int) | none => false)
  | .getstatic i => decide (len = 3 ∧ ((own = 1 ∧ i = 25 ∧ a = 0) ∨ (own = 6 ∧ i = 81 ∧ a = 1) ∨ (own = 10 ∧ i = 38 ∧ a = 2)))
  | .invokevirtual i => decide (len = 3 ∧ a < NM ∧ mS a = 0 ∧ b = mA a ∧ d = mO a ∧ a ≠ 53 ∧ a ≠ 106) && mlt.any (fun q => decide (q.1 = own ∧ q.2.1 = i ∧ q.2.2.1 = a))
  | .invokestatic i => decide (len = 3 ∧ a < NM ∧ mS a = 1 ∧ b = mA a ∧ ((d = 53 ∧ a = 53 ∧ own = 6 ∧ i = 67) ∨ (d = 106 ∧ a = 106 ∧ own = 11 ∧ i = 94) ∨ (d = 0 ∧ a ≠ 53 ∧ a ≠ 106) ∨ (d = 1 ∧ own = 4 ∧ i = 68 ∧ a = 5) ∨ (d = 1 ∧ own = 10 ∧ i = 34 ∧ a = 1))) && (Nat.beq d 1 || mlt.any (fun q => decide (q.1 = own ∧ q.2.1 = i ∧ q.2.2.1 = a)))
  | _ => decide (len = 1)
def okCE (own nL : Nat) (cc : ByteArray) (q : CE) : Bool := match q with
  | (pc, len, ins, imm, a, b, d, sw) => decide (decode cc pc = .ok (ins, len)) && okI own nL pc len ins imm a b d sw
