/-! a step of the pure machine is a step of the machine -/
theorem in_kc {own i : Nat} {imm : Int32} (h : kct.any (fun q => decide (q.1 = own ∧ q.2.1 = i ∧ q.2.2.1 = imm)) = true) : Cond.constant (cn own) i imm ∈ TB := by
  obtain ⟨q, hq, h2⟩ := List.any_eq_true.mp h
  obtain ⟨rfl, rfl, rfl⟩ := of_decide_eq_true h2
  exact tb_of (of_decide_eq_true (List.all_eq_true.mp kct_ok q hq)) rfl
set_option maxRecDepth 100000 in
theorem kcl_ok : lw_tbl[1306]? = some (.constantLong (cn 12) 233 1000) := by decide +kernel
set_option maxRecDepth 100000 in
theorem most_ok : lw_tbl[827]? = some (.fieldLink (cn 10) 38 (sC 2) (sM 2) "[I") := by decide +kernel
theorem in_fl {own i a b d : Nat} (h : (match flt[d]? with | some q => decide (q.1 = own ∧ q.2.1 = i ∧ q.2.2.1 = a ∧ q.2.2.2.1 = b) | none => false) = true) : Cond.fieldLink (cn own) i (cn a) (FT a b).2.1 (FT a b).2.2.1 ∈ TB ∧ a < 13 ∧ b < NF a := by
  split at h
  · rename_i q hq
    obtain ⟨rfl, rfl, rfl, rfl⟩ := of_decide_eq_true h
    have h3 := List.all_eq_true.mp flt_ok q (List.mem_of_getElem? hq)
    simp only [Bool.and_eq_true, decide_eq_true_eq] at h3
    exact ⟨tb_of h3.1 rfl, h3.2.1, h3.2.2⟩
  · cases h
theorem nar_b {x : Int32} (h : x = 0 ∨ x = 1) : vp_nar .boolean x = x := by
  rcases h with rfl | rfl <;> rfl
theorem nar_b' {x : Int32} (h : x = 0 ∨ x = 1) : narrow .boolean (.int x) = .int x := by
  rcases h with rfl | rfl <;> rfl
theorem p_sw_at {K : Nat → Prop} {a : Nat} {x : Int32} : ∀ {sw : List (Int32 × Nat)} {j : Nat} {q : Int32 × Nat}, p_sw sw x K a → sw[j]? = some q → x = q.1 → (∀ i r, i < j → sw[i]? = some r → r.1 ≠ q.1) → K q.2
  | [], j, q, _, h, _, _ => by simp at h
  | r :: sw, 0, q, h, hj, hx, _ => by
    simp at hj
    subst hj
    exact h.1 hx
  | r :: sw, j + 1, q, h, hj, hx, hn => by
    have h0 : r.1 ≠ q.1 := hn 0 r (Nat.succ_pos j) rfl
    exact p_sw_at (h.2 (fun e => h0 (e.symm.trans hx))) (by simpa using hj) hx (fun i s hi hs => hn (i + 1) s (by omega) (by simpa using hs))
theorem p_sw_out {K : Nat → Prop} {a : Nat} {x : Int32} : ∀ {sw : List (Int32 × Nat)}, p_sw sw x K a → (∀ q ∈ sw, x ≠ q.1) → K a
  | [], h, _ => h
  | r :: sw, h, hn => p_sw_out (h.2 (hn r List.mem_cons_self)) (fun q hq => hn q (List.mem_cons_of_mem _ hq))
theorem mOk_code {k : Nat} (h : k < NM) : Cond.code (mY k) (mB k) (mL k) (mR k) ∈ TB := by
  have q := mOk_all h
  unfold mOk at q
  simp only [Bool.and_eq_true, decide_eq_true_eq] at q
  exact tb_of q.1.2 rfl
theorem mb53 : mB 53 = Lib.Math.abs.code := by decide +kernel
theorem mb106 : mB 106 = Lib.Math.max.code := by decide +kernel
theorem my53 : mY 53 = Lib.Math.abs.name := by decide +kernel
theorem my106 : mY 106 = Lib.Math.max.name := by decide +kernel
theorem mc53 : Cond.code Lib.Math.abs.name Lib.Math.abs.code 1 (some .int) ∈ TB := by
  have h := mOk_code (k := 53) (by decide)
  rw [mb53, my53] at h
  exact h
theorem mc106 : Cond.code Lib.Math.max.name Lib.Math.max.code 2 (some .int) ∈ TB := by
  have h := mOk_code (k := 106) (by decide)
  rw [mb106, my106] at h
  exact h
section SND
variable {p : Program} {l : Launch} {e : Env} {R : Room} {s : State} {m : MethodId} {args : Array Value} {below : List Frame} {meth : Method} {c : Code} {own nL : Nat} {cc : ByteArray} {dC : Nat → ClassId} {dI : Nat → Nat → Nat} {cI cZ : ClassId} {ad : Nat → Nat} {sc : Nat × (Nat → Int32)} {A0 : Nat → Prop} {d0 cells slots : Nat} {C : CT} {QQ : State → Prop}
/-- how a frame ends -/
def RetI (p : Program) (l : Launch) (e : Env) (R : Room) (s : State) (m : MethodId) (args : Array Value) (below : List Frame) (meth : Method) (c : Code) (cc : ByteArray) (dC : Nat → ClassId) (dI : Nat → Nat → Nat) (cI cZ : ClassId) (ad : Nat → Nat) (A0 : Nat → Prop) (cells slots : Nat) (QQ : State → Prop) (rk : Nat) (Q : Int32 → St → Prop) : Prop :=
  (∀ (pc : Nat) (x : Int32) (σ : St) (H : Heap) (locs : List Loc) (ls : Array Slot), rk ≠ 0 → (rk ≠ 1 → x = 0 ∨ x = 1) → Q x σ → va_P (dC, dI) cls (wW cI cZ ad σ) H → va_D A0 (wW cI cZ ad σ) → va_S A0 s.heap H locs → decode cc pc = .ok (.ireturn, 1) → W p l e R s m args below meth c H locs cells slots QQ (F0 m pc ls [.int x])) ∧
  ∀ (pc : Nat) (σ : St) (H : Heap) (locs : List Loc) (ls : Array Slot), rk = 0 → Q 0 σ → va_P (dC, dI) cls (wW cI cZ ad σ) H → va_D A0 (wW cI cZ ad σ) → va_S A0 s.heap H locs → decode cc pc = .ok (.return_, 1) → W p l e R s m args below meth c H locs cells slots QQ (F0 m pc ls [])
set_option maxHeartbeats 8000000 in
theorem snd1 (F : Frm p l R s m args c own nL cc dC dI cI cZ ad sc A0 d0 cells slots C) {rk : Nat} {Q : Int32 → St → Prop} (hret : RetI p l e R s m args below meth c cc dC dI cI cZ ad A0 cells slots QQ rk Q) {q : CE} (hok : okCE own nL cc q = true) {lv : LV} {st : List Value} {σ : St}
    (h : stp sc C rk Q (XW p l e R s m args below meth c dC dI cI cZ ad A0 cells slots QQ nL) q lv st σ) : XW p l e R s m args below meth c dC dI cI cZ ad A0 cells slots QQ nL q.1 lv st σ := by
  obtain ⟨hx, hb, hmx, hown, hts, hC, hAA, hR1, hR2, hc1, hc2, hM⟩ := id F
  obtain ⟨pc, len, ins, imm, a, b, d, sw⟩ := q
  unfold okCE at hok
  simp only [Bool.and_eq_true] at hok
  obtain ⟨hdg, hI⟩ := hok
  have hdg := of_decide_eq_true hdg
  intro H locs ls hP hD hS hL
  show W p l e R s m args below meth c H locs cells slots QQ (F0 m pc ls (st.map (cv ad)))
  unfold stp at h
  dsimp only at h
  unfold okI at hI
  cases ins with
  | iconst n =>
    dsimp only at h
    obtain ⟨rfl, hv⟩ := of_decide_eq_true hI
    exact lv_iconst hx hb hdg hv (h H locs ls hP hD hS hL)
  | bipush n =>
    dsimp only at h
    obtain ⟨rfl, hv⟩ := of_decide_eq_true hI
    exact lv_bipush hx hb hdg hv (h H locs ls hP hD hS hL)
  | sipush n =>
    dsimp only at h
    obtain ⟨rfl, hv⟩ := of_decide_eq_true hI
    exact lv_sipush hx hb hdg hv (h H locs ls hP hD hS hL)
  | ldc n =>
    dsimp only at h
    simp only [Bool.and_eq_true] at hI
    obtain ⟨h1, h2⟩ := hI
    obtain rfl := of_decide_eq_true h1
    exact lv_ldc hx hb hown (hts _ (in_kc h2)) hdg (h H locs ls hP hD hS hL)
  | ldc_w n =>
    dsimp only at h
    simp only [Bool.and_eq_true] at hI
    obtain ⟨h1, h2⟩ := hI
    obtain rfl := of_decide_eq_true h1
    exact lv_ldcw hx hb hown (hts _ (in_kc h2)) hdg (h H locs ls hP hD hS hL)
  | lconst n =>
    dsimp only at h
    obtain ⟨rfl, hv⟩ := of_decide_eq_true hI
    exact lv_lconst hx hb hdg hv (h H locs ls hP hD hS hL)
  | ldc2_w n =>
    dsimp only at h
    obtain ⟨rfl, rfl, rfl, rfl⟩ := of_decide_eq_true hI
    exact lv_ldc2 (v := 1000) hx hb hown (hts _ (tb_of kcl_ok rfl)) hdg (h H locs ls hP hD hS hL)
  | iload_n n =>
    dsimp only at h
    obtain ⟨rfl, hv⟩ := of_decide_eq_true hI
    unfold p_ldi at h
    split at h
    · rename_i x hlv
      exact lv_iload_n hx hb hdg hv (hL.at hlv) (h H locs ls hP hD hS hL)
    · exact h.elim
  | iload n =>
    dsimp only at h
    obtain ⟨rfl, rfl⟩ := of_decide_eq_true hI
    unfold p_ldi at h
    split at h
    · rename_i x hlv
      exact lv_iload hx hb hdg (hL.at hlv) (h H locs ls hP hD hS hL)
    · exact h.elim
  | aload_n n =>
    dsimp only at h
    obtain ⟨rfl, hv⟩ := of_decide_eq_true hI
    unfold p_lda at h
    split at h
    · rename_i x hlv
      exact lv_aload_n hx hb hdg hv (hL.at hlv) (h H locs ls hP hD hS hL)
    · exact h.elim
  | aload n =>
    dsimp only at h
    obtain ⟨rfl, rfl⟩ := of_decide_eq_true hI
    unfold p_lda at h
    split at h
    · rename_i x hlv
      exact lv_aload hx hb hdg (hL.at hlv) (h H locs ls hP hD hS hL)
    · exact h.elim
  | lload_n n =>
    dsimp only at h
    obtain ⟨rfl, hv⟩ := of_decide_eq_true hI
    unfold p_ldl at h
    split at h
    · rename_i x hlv
      exact lv_lload_n hx hb hdg hv (hL.at hlv) (h H locs ls hP hD hS hL)
    · exact h.elim
  | lload n =>
    dsimp only at h
    obtain ⟨rfl, rfl⟩ := of_decide_eq_true hI
    unfold p_ldl at h
    split at h
    · rename_i x hlv
      exact lv_lload hx hb hdg (hL.at hlv) (h H locs ls hP hD hS hL)
    · exact h.elim
  | istore_n n =>
    dsimp only at h
    obtain ⟨rfl, hv, ha⟩ := of_decide_eq_true hI
    unfold p_sti at h
    split at h
    · split at h
      · exact h.elim
      · rename_i hh
        exact lv_istore_n hx hb hdg hv hL.2 ha rfl (fun ls' hl' => h H locs ls' hP hD hS (hL.st1 hh hl'))
    · exact h.elim
  | istore n =>
    dsimp only at h
    obtain ⟨rfl, rfl, ha⟩ := of_decide_eq_true hI
    unfold p_sti at h
    split at h
    · split at h
      · exact h.elim
      · rename_i hh
        exact lv_istore hx hb hdg hL.2 ha rfl (fun ls' hl' => h H locs ls' hP hD hS (hL.st1 hh hl'))
    · exact h.elim
  | astore_n n =>
    dsimp only at h
    obtain ⟨rfl, hv, ha⟩ := of_decide_eq_true hI
    unfold p_sta at h
    split at h
    · split at h
      · exact h.elim
      · rename_i x r _ hh
        exact lv_astore_n hx hb hdg hv hL.2 ha rfl (fun ls' hl' => h H locs ls' hP hD hS (hL.st1 (v := .ref x) hh hl'))
    · exact h.elim
  | astore n =>
    dsimp only at h
    obtain ⟨rfl, rfl, ha⟩ := of_decide_eq_true hI
    unfold p_sta at h
    split at h
    · split at h
      · exact h.elim
      · rename_i x r _ hh
        exact lv_astore hx hb hdg hL.2 ha rfl (fun ls' hl' => h H locs ls' hP hD hS (hL.st1 (v := .ref x) hh hl'))
    · exact h.elim
  | lstore_n n =>
    dsimp only at h
    obtain ⟨rfl, hv, ha⟩ := of_decide_eq_true hI
    unfold p_stl at h
    split at h
    · split at h
      · exact h.elim
      · rename_i hh
        exact lv_lstore_n hx hb hdg hv hL.2 ha rfl (fun ls' hl' => h H locs ls' hP hD hS (hL.st2 hh hl'))
    · exact h.elim
  | lstore n =>
    dsimp only at h
    obtain ⟨rfl, rfl, ha⟩ := of_decide_eq_true hI
    unfold p_stl at h
    split at h
    · split at h
      · exact h.elim
      · rename_i hh
        exact lv_lstore hx hb hdg hL.2 ha rfl (fun ls' hl' => h H locs ls' hP hD hS (hL.st2 hh hl'))
    · exact h.elim
  | iinc i n =>
    dsimp only at h
    obtain ⟨rfl, rfl, ha, rfl⟩ := of_decide_eq_true hI
    unfold p_inc at h
    split at h
    · rename_i x hlv
      split at h
      · exact h.elim
      · rename_i hh
        obtain ⟨k, hk⟩ := List.getElem?_of_mem (prs_mem.mpr ⟨Value.int x, hlv, rfl⟩ : (i, cv ad (Value.int x)) ∈ prs ad lv)
        exact lv_iinc hx hb hdg hL.2 hk rfl ha rfl (fun ls' hl' => h H locs ls' hP hD hS (hL.st1 (v := .int (x + Int32.ofInt n)) hh hl'))
    · exact h.elim
  | iadd =>
    dsimp only at h
    obtain rfl := of_decide_eq_true hI
    unfold i_bin at h
    split at h
    · exact lv_iadd hx hb hdg (h H locs ls hP hD hS hL)
    · exact h.elim
  | isub =>
    dsimp only at h
    obtain rfl := of_decide_eq_true hI
    unfold i_bin at h
    split at h
    · exact lv_isub hx hb hdg (h H locs ls hP hD hS hL)
    · exact h.elim
  | imul =>
    dsimp only at h
    obtain rfl := of_decide_eq_true hI
    unfold i_bin at h
    split at h
    · exact lv_imul hx hb hdg (h H locs ls hP hD hS hL)
    · exact h.elim
  | iand =>
    dsimp only at h
    obtain rfl := of_decide_eq_true hI
    unfold i_bin at h
    split at h
    · exact lv_iand hx hb hdg (h H locs ls hP hD hS hL)
    · exact h.elim
  | ior =>
    dsimp only at h
    obtain rfl := of_decide_eq_true hI
    unfold i_bin at h
    split at h
    · exact lv_ior hx hb hdg (h H locs ls hP hD hS hL)
    · exact h.elim
  | ixor =>
    dsimp only at h
    obtain rfl := of_decide_eq_true hI
    unfold i_bin at h
    split at h
    · exact lv_ixor hx hb hdg (h H locs ls hP hD hS hL)
    · exact h.elim
  | ishl =>
    dsimp only at h
    obtain rfl := of_decide_eq_true hI
    unfold i_bin at h
    split at h
    · exact lv_ishl hx hb hdg (h H locs ls hP hD hS hL)
    · exact h.elim
  | ishr =>
    dsimp only at h
    obtain rfl := of_decide_eq_true hI
    unfold i_bin at h
    split at h
    · exact lv_ishr hx hb hdg (h H locs ls hP hD hS hL)
    · exact h.elim
  | iushr =>
    dsimp only at h
    obtain rfl := of_decide_eq_true hI
    unfold i_bin at h
    split at h
    · exact lv_iushr hx hb hdg rfl (h H locs ls hP hD hS hL)
    · exact h.elim
  | idiv =>
    dsimp only at h
    obtain rfl := of_decide_eq_true hI
    unfold i_div at h
    split at h
    · exact lv_idiv hx hb hdg h.1 (h.2 H locs ls hP hD hS hL)
    · exact h.elim
  | irem =>
    dsimp only at h
    obtain rfl := of_decide_eq_true hI
    unfold i_div at h
    split at h
    · exact lv_irem hx hb hdg h.1 (h.2 H locs ls hP hD hS hL)
    · exact h.elim
  | ineg =>
    dsimp only at h
    obtain rfl := of_decide_eq_true hI
    unfold i_un at h
    split at h
    · exact lv_ineg hx hb hdg (h H locs ls hP hD hS hL)
    · exact h.elim
  | lsub =>
    dsimp only at h
    obtain rfl := of_decide_eq_true hI
    unfold l_bin at h
    split at h
    · exact lv_lsub hx hb hdg (h H locs ls hP hD hS hL)
    · exact h.elim
  | lmul =>
    dsimp only at h
    obtain rfl := of_decide_eq_true hI
    unfold l_bin at h
    split at h
    · exact lv_lmul hx hb hdg (h H locs ls hP hD hS hL)
    · exact h.elim
  | ldiv =>
    dsimp only at h
    obtain rfl := of_decide_eq_true hI
    unfold l_div at h
    split at h
    · exact lv_ldiv hx hb hdg h.1 (h.2 H locs ls hP hD hS hL)
    · exact h.elim
  | lcmp =>
    dsimp only at h
    obtain rfl := of_decide_eq_true hI
    unfold l_cmp at h
    split at h
    · exact W.lcmp hx hb hdg (h H locs ls hP hD hS hL)
    · exact h.elim
  | i2l =>
    dsimp only at h
    obtain rfl := of_decide_eq_true hI
    unfold c_i2l at h
    split at h
    · exact lv_i2l hx hb hdg rfl (h H locs ls hP hD hS hL)
    · exact h.elim
  | l2i =>
    dsimp only at h
    obtain rfl := of_decide_eq_true hI
    unfold c_l2i at h
    split at h
    · exact lv_l2i hx hb hdg rfl (h H locs ls hP hD hS hL)
    · exact h.elim
  | dup =>
    dsimp only at h
    obtain rfl := of_decide_eq_true hI
    unfold p_dup at h
    split at h
    · split at h
      · rename_i hc
        exact lv_dup hx hb hdg (by rw [cv_cat]; exact Nat.eq_of_beq_eq_true hc) (h H locs ls hP hD hS hL)
      · exact h.elim
    · exact h.elim
  | dup2 =>
    dsimp only at h
    obtain rfl := of_decide_eq_true hI
    unfold p_dup2 at h
    split at h
    · split at h
      · rename_i hc
        simp only [Bool.and_eq_true] at hc
        exact lv_dup2_11 hx hb hdg (by rw [cv_cat]; exact Nat.eq_of_beq_eq_true hc.1) (by rw [cv_cat]; exact Nat.eq_of_beq_eq_true hc.2) (h H locs ls hP hD hS hL)
      · exact h.elim
    · exact h.elim
  | pop =>
    dsimp only at h
    obtain rfl := of_decide_eq_true hI
    unfold p_pop at h
    split at h
    · split at h
      · rename_i hc
        exact lv_pop hx hb hdg (by rw [cv_cat]; exact Nat.eq_of_beq_eq_true hc) (h H locs ls hP hD hS hL)
      · exact h.elim
    · exact h.elim
  | goto o =>
    dsimp only at h
    obtain ⟨rfl, ht⟩ := of_decide_eq_true hI
    exact lv_goto hx hb hdg ht (h H locs ls hP hD hS hL)
  | ifCond cd o =>
    obtain ⟨rfl, ht⟩ := of_decide_eq_true hI
    cases cd with
    | eq =>
      dsimp only [i_if] at h
      split at h
      · exact lv_if_eq hx hb hdg ht (fun z => h.1 z H locs ls hP hD hS hL) (fun z => h.2 z H locs ls hP hD hS hL)
      · exact h.elim
    | ne =>
      dsimp only [i_ne] at h
      split at h
      · exact lv_if_ne hx hb hdg ht (fun z => h.1 z H locs ls hP hD hS hL) (fun z => h.2 z H locs ls hP hD hS hL)
      · exact h.elim
    | lt =>
      dsimp only [i_if] at h
      split at h
      · exact lv_if_lt hx hb hdg ht (fun z => h.1 z H locs ls hP hD hS hL) (fun z => h.2 z H locs ls hP hD hS hL)
      · exact h.elim
    | ge =>
      dsimp only [i_if] at h
      split at h
      · exact lv_if_ge hx hb hdg ht (fun z => h.1 z H locs ls hP hD hS hL) (fun z => h.2 z H locs ls hP hD hS hL)
      · exact h.elim
    | gt =>
      dsimp only [i_if] at h
      split at h
      · exact lv_if_gt hx hb hdg ht (fun z => h.1 z H locs ls hP hD hS hL) (fun z => h.2 z H locs ls hP hD hS hL)
      · exact h.elim
    | le =>
      dsimp only [i_if] at h
      split at h
      · exact lv_if_le hx hb hdg ht (fun z => h.1 z H locs ls hP hD hS hL) (fun z => h.2 z H locs ls hP hD hS hL)
      · exact h.elim
  | if_icmp cd o =>
    obtain ⟨rfl, ht⟩ := of_decide_eq_true hI
    cases cd with
    | eq =>
      dsimp only [i_cmp] at h
      split at h
      · exact lv_icmp_eq hx hb hdg ht (fun z => h.1 z H locs ls hP hD hS hL) (fun z => h.2 z H locs ls hP hD hS hL)
      · exact h.elim
    | ne =>
      dsimp only [i_cne] at h
      split at h
      · exact lv_icmp_ne hx hb hdg ht (fun z => h.1 z H locs ls hP hD hS hL) (fun z => h.2 z H locs ls hP hD hS hL)
      · exact h.elim
    | lt =>
      dsimp only [i_cmp] at h
      split at h
      · exact lv_icmp_lt hx hb hdg ht (fun z => h.1 z H locs ls hP hD hS hL) (fun z => h.2 z H locs ls hP hD hS hL)
      · exact h.elim
    | ge =>
      dsimp only [i_cmp] at h
      split at h
      · exact lv_icmp_ge hx hb hdg ht (fun z => h.1 z H locs ls hP hD hS hL) (fun z => h.2 z H locs ls hP hD hS hL)
      · exact h.elim
    | gt =>
      dsimp only [i_cmp] at h
      split at h
      · exact lv_icmp_gt hx hb hdg ht (fun z => h.1 z H locs ls hP hD hS hL) (fun z => h.2 z H locs ls hP hD hS hL)
      · exact h.elim
    | le =>
      dsimp only [i_cmp] at h
      split at h
      · exact lv_icmp_le hx hb hdg ht (fun z => h.1 z H locs ls hP hD hS hL) (fun z => h.2 z H locs ls hP hD hS hL)
      · exact h.elim
  | tableswitch f lo hi os =>
    dsimp only at h
    simp only [Bool.and_eq_true] at hI
    obtain ⟨h1, h2⟩ := hI
    obtain ⟨ht, rfl, hhi, hsz, hsw⟩ := of_decide_eq_true h1
    unfold p_swi at h
    split at h
    · rename_i x r
      by_cases hr : x.toInt < 0 ∨ hi < x.toInt
      · refine lv_tableOut hx hb hdg hr ht ?_
        refine p_sw_out (K := fun t => W p l e R s m args below meth c H locs cells slots QQ (F0 m t ls (r.map (cv ad)))) (p_sw_mono (fun t z => z H locs ls hP hD hS hL) h) (fun q hq e => ?_)
        obtain ⟨j, hj⟩ := List.getElem?_of_mem hq
        have hjl : j < os.size := by rw [← hsw]; exact (List.getElem?_eq_some_iff.mp hj).1
        have h3 := of_decide_eq_true (all_rg h2 hjl)
        rw [List.getD_eq_getElem?_getD, hj] at h3
        have h4 : x = Int32.ofNat j := e.trans h3.1
        have h5 : x.toInt = (j : Int) := by rw [h4]; exact nI_toInt (by omega)
        omega
      · have hlt : x.toInt.toNat < os.size := by omega
        have h3 := of_decide_eq_true (all_rg h2 hlt)
        have hxj : x = Int32.ofNat x.toInt.toNat := by
          apply Int32.toInt_inj.mp
          have h6 : (nI x.toInt.toNat).toInt = (x.toInt.toNat : Int) := nI_toInt (by omega)
          show x.toInt = (nI x.toInt.toNat).toInt
          rw [h6]
          omega
        have hos : os[(x.toInt - 0).toNat]? = some (os.getD x.toInt.toNat 0) := by
          have : (x.toInt - 0).toNat = x.toInt.toNat := by omega
          rw [this]
          unfold Array.getD
          rw [dif_pos hlt]
          exact Array.getElem?_eq_getElem hlt
        have hsj : x.toInt.toNat < sw.length := by omega
        have hge : sw[x.toInt.toNat]? = some (sw.getD x.toInt.toNat (0, 0)) := by
          rw [List.getD_eq_getElem?_getD, List.getElem?_eq_getElem hsj]; rfl
        refine lv_tableIn hx hb hdg (fun z => hr (Or.inl z)) (fun z => hr (Or.inr z)) hos h3.2 ?_
        refine p_sw_at (K := fun t => W p l e R s m args below meth c H locs cells slots QQ (F0 m t ls (r.map (cv ad)))) (p_sw_mono (fun t z => z H locs ls hP hD hS hL) h) hge (by rw [h3.1]; exact hxj) (fun i q hi hq => ?_)
        have hil : i < os.size := by omega
        have h7 := of_decide_eq_true (all_rg h2 hil)
        rw [List.getD_eq_getElem?_getD, hq] at h7
        rw [h3.1]
        intro e
        have e2 : nI i = nI x.toInt.toNat := h7.1.symm.trans e
        have := (nI_eq (by omega) (by omega)).mp e2
        omega
    · exact h.elim
  | lookupswitch f ps =>
    dsimp only at h
    obtain ⟨ht, hp, hm⟩ := of_decide_eq_true hI
    unfold p_swi at h
    split at h
    · rename_i x r
      have key : ∀ (pl : List (Int × Int)) (sl : List (Int32 × Nat)), pl.map (fun q => (q.1, (pc : Int) + q.2)) = sl.map (fun q => (q.1.toInt, (q.2 : Int))) → p_sw sl x (fun t => XW p l e R s m args below meth c dC dI cI cZ ad A0 cells slots QQ nL t lv r σ) a → ∃ (off : Int) (tgt : Nat), Op.lookupswitch.offset pl f x.toInt = off ∧ (pc : Int) + off = (tgt : Int) ∧ XW p l e R s m args below meth c dC dI cI cZ ad A0 cells slots QQ nL tgt lv r σ := by
        intro pl
        induction pl with
        | nil =>
          intro sl hsl hsw
          cases sl with
          | nil => exact ⟨f, a, rfl, ht, hsw⟩
          | cons y ys => cases hsl
        | cons z zs ih =>
          intro sl hsl hsw
          cases sl with
          | nil => cases hsl
          | cons y ys =>
            simp only [List.map_cons, List.cons.injEq, Prod.mk.injEq] at hsl
            obtain ⟨⟨e1, e2⟩, e3⟩ := hsl
            by_cases hxy : x = y.1
            · refine ⟨z.2, y.2, ?_, e2, hsw.1 hxy⟩
              obtain ⟨z1, z2⟩ := z
              rw [Op.lookupswitch.offset_cons, if_pos]
              rw [hxy]; exact e1
            · obtain ⟨off, tgt, g1, g2, g3⟩ := ih ys e3 (hsw.2 hxy)
              refine ⟨off, tgt, ?_, g2, g3⟩
              obtain ⟨z1, z2⟩ := z
              rw [lv_osw hxy e1.symm]
              exact g1
      obtain ⟨off, tgt, g1, g2, g3⟩ := key _ _ hm h
      exact lv_lookup hx hb hdg hp g1 g2 (g3 H locs ls hP hD hS hL)
    · exact h.elim
  | iaload =>
    dsimp only at h
    obtain rfl := of_decide_eq_true hI
    unfold p_iald at h
    split at h
    · rename_i i cl r
      split at h
      · rename_i n fs hlay
        exact va_iald hx hb hC.1 hP cl 0 (by rw [wW_at (lay_lt hlay)]; simp only [ent, hlay]) rfl h.1 hdg (h.2 H locs ls hP hD hS hL)
      · exact h.elim
      · split at h
        · rename_i q hq
          exact va_ti hx hb (hC.2.2.2 _ _ hq) hS h.1 rfl hdg (h.2 H locs ls hP hD hS hL)
        · exact h.elim
    · exact h.elim
  | baload =>
    dsimp only at h
    obtain rfl := of_decide_eq_true hI
    unfold p_zald at h
    split at h
    · rename_i i cl r
      split at h
      · rename_i n fs hlay
        exact va_zald hx hb hC.1 hP cl 1 (by rw [wW_at (lay_lt hlay)]; simp only [ent, hlay]) rfl h.1 hdg (h.2 H locs ls hP hD hS hL)
      · exact h.elim
    · exact h.elim
  | iastore =>
    dsimp only at h
    obtain rfl := of_decide_eq_true hI
    unfold p_iast at h
    split at h
    · rename_i x i cl r
      split at h
      · rename_i n fs hlay
        refine va_iast (f := σ cl) (cA := cI) (n := n) hx hb hC.1 hP hD hS cl 0 (by rw [wW_at (lay_lt hlay)]; simp only [ent, hlay]) rfl h.1 hdg (fun H1 locs1 hP1 hD1 hS1 => ?_)
        rw [wW_set (i := i.toNatClampNeg) (v := x) (lay_lt hlay) (by simp only [ent, hlay, up_self])] at hP1 hD1
        exact h.2 H1 locs1 ls hP1 hD1 hS1 hL
      · exact h.elim
    · exact h.elim
  | bastore =>
    dsimp only at h
    obtain rfl := of_decide_eq_true hI
    unfold p_zast at h
    split at h
    · rename_i x i cl r
      split at h
      · rename_i n fs hlay
        refine va_zast (f := σ cl) (cA := cZ) (n := n) hx hb hC.1 hP hD hS cl 1 (by rw [wW_at (lay_lt hlay)]; simp only [ent, hlay]) rfl h.1 hdg (fun H1 locs1 hP1 hD1 hS1 => ?_)
        rw [nar_b h.2.1] at hP1 hD1
        rw [wW_set (i := i.toNatClampNeg) (v := x) (lay_lt hlay) (by simp only [ent, hlay, up_self])] at hP1 hD1
        exact h.2.2 H1 locs1 ls hP1 hD1 hS1 hL
      · exact h.elim
    · exact h.elim
  | arraylength =>
    dsimp only at h
    obtain rfl := of_decide_eq_true hI
    unfold p_len at h
    split at h
    · split at h
      · exact h.elim
      · split at h
        · rename_i q hq
          exact va_tlen hx hb (hC.2.2.2 _ _ hq) hS rfl hdg (h H locs ls hP hD hS hL)
        · exact h.elim
    · exact h.elim
  | getfield i =>
    dsimp only at h
    simp only [Bool.and_eq_true] at hI
    obtain ⟨h1, h2⟩ := hI
    obtain rfl := of_decide_eq_true h1
    obtain ⟨hw, ha, hbk⟩ := in_fl h2
    unfold p_get at h
    split at h
    · rename_i cl r
      split at h
      · rename_i cj fs hlay
        split at h
        · rename_i hcj
          have hcj := Nat.eq_of_beq_eq_true hcj
          subst hcj
          have hent : (wW cI cZ ad σ)[cl]? = some (ad cl, .inr (cj, obF ad σ cl fs)) := by rw [wW_at (lay_lt hlay)]; simp only [ent, hlay]
          split at h
          · rename_i q hf
            exact va_get (v := .ref (ad q)) (C := cn cj) (T := FT cj) (N := NF cj) hx hb hts (u_in ha) hown hC.1 hP cl hent (cls_at ha) b hbk (hts _ hw) (fun _ z => z) (obF_at hf) hdg (h H locs ls hP hD hS hL)
          · rename_i hf
            exact va_get (v := .int (σ cl b)) (C := cn cj) (T := FT cj) (N := NF cj) hx hb hts (u_in ha) hown hC.1 hP cl hent (cls_at ha) b hbk (hts _ hw) (fun _ z => z) (obF_at hf) hdg (h H locs ls hP hD hS hL)
          · exact h.elim
        · exact h.elim
      · exact h.elim
    · exact h.elim
  | putfield i =>
    dsimp only at h
    simp only [Bool.and_eq_true] at hI
    obtain ⟨h1, h2⟩ := hI
    obtain rfl := of_decide_eq_true h1
    have h2' : (match flt[d]? with | some q => decide (q.1 = own ∧ q.2.1 = i ∧ q.2.2.1 = a ∧ q.2.2.2.1 = b) | none => false) = true ∧ (FT a b).2.2.2 = false ∧ fty a b = .int := by
      revert h2
      cases flt[d]? with
      | none => intro z; cases z
      | some q =>
        intro z
        obtain ⟨z1, z2, z3, z4, z5, z6⟩ := of_decide_eq_true z
        exact ⟨decide_eq_true ⟨z1, z2, z3, z4⟩, z5, z6⟩
    obtain ⟨h3, hfin, hty⟩ := h2'
    obtain ⟨hw, ha, hbk⟩ := in_fl h3
    unfold p_put at h
    split at h
    · rename_i x cl r
      split at h
      · rename_i cj fs hlay
        split at h
        · rename_i hcj
          have hcj := Nat.eq_of_beq_eq_true hcj
          subst hcj
          have hent : (wW cI cZ ad σ)[cl]? = some (ad cl, .inr (cj, obF ad σ cl fs)) := by rw [wW_at (lay_lt hlay)]; simp only [ent, hlay]
          split at h
          · rename_i hf
            have hpd := ty_in ha b hbk
            rw [hty] at hpd
            refine va_put (v := .int x) (ty := .int) (C := cn cj) (T := FT cj) (N := NF cj) hx hb hts (u_in ha) (fty cj) (ty_in ha) (nm_in ha) hown hC.1 hP hD hS cl hent (cls_at ha) b hbk (hts _ hw) (fun _ z => z) hfin hpd rfl rfl (by rw [obF_len]; exact (List.getElem?_eq_some_iff.mp hf).1) hdg (fun H1 locs1 hP1 hD1 hS1 => ?_)
            rw [wW_set (i := b) (v := x) (lay_lt hlay) (by simp only [ent, hlay]; rw [obF_set hf])] at hP1 hD1
            exact h H1 locs1 ls hP1 hD1 hS1 hL
          · exact h.elim
        · exact h.elim
      · exact h.elim
    · exact h.elim
  | getstatic i =>
    dsimp only at h
    obtain ⟨rfl, hh⟩ := of_decide_eq_true hI
    rcases hh with ⟨rfl, rfl, rfl⟩ | ⟨rfl, rfl, rfl⟩ | ⟨rfl, rfl, rfl⟩
    · exact va_getsN hx hb (hC.2.2.1 0 (by omega)) hS hown (va_Nw.use rfl hC.2.1.1) (fun _ z => z) hdg (h H locs ls hP hD hS hL)
    · exact va_getsN hx hb (hC.2.2.1 1 (by omega)) hS hown (va_Nw.use rfl hC.2.1.2.1) (fun _ z => z) hdg (h H locs ls hP hD hS hL)
    · exact va_gets hx hb (hC.2.2.1 2 (by omega)) hS hown (hts _ (tb_of most_ok rfl)) (fun _ z => z) hdg (h H locs ls hP hD hS hL)
  | invokevirtual i =>
    dsimp only at h
    simp only [Bool.and_eq_true] at hI
    obtain ⟨h1, h2⟩ := hI
    obtain ⟨rfl, hk, hs, rfl, rfl, h53, h106⟩ := of_decide_eq_true h1
    exact call_v F hk h53 h106 hs h2 hdg hP hD hS hL h
  | invokestatic i =>
    dsimp only at h
    simp only [Bool.and_eq_true] at hI
    obtain ⟨h1, h2⟩ := hI
    obtain ⟨rfl, hk, hs, rfl, hh⟩ := of_decide_eq_true h1
    rcases hh with ⟨rfl, rfl, rfl, rfl⟩ | ⟨rfl, rfl, rfl, rfl⟩ | ⟨rfl, h53, h106⟩ | ⟨rfl, rfl, rfl, rfl⟩ | ⟨rfl, rfl, rfl, rfl⟩
    · have h : (match Nat.ble (cats st) 8 with | true => i_un absI (fun st => XW p l e R s m args below meth c dC dI cI cZ ad A0 cells slots QQ nL (pc + 3) lv st σ) st | false => False) := h
      split at h
      · rename_i hcat
        have hcat := Nat.le_of_ble_eq_true hcat
        have hlk : Cond.methodLink (cn 6) 67 (mY 53) ∈ TB := in_ml (by simpa using h2)
        have hstt := mOk_st hk hs
        rw [my53] at hlk hstt
        unfold i_un at h
        split at h
        · rename_i x r _ _
          have hcr : ((r.map (cv ad)).map fun v => v.category).sum ≤ 8 := by
            rw [cv_cats]
            have : cats (Value.int x :: r) = 1 + cats r := rfl
            omega
          exact va_mabs hx hb (hmx.trans hL.2.1.symm) hown (hts _ hlk) (hts _ hstt) (hts _ (in_ini (o := 15) (by omega))) (hts _ mc53) (by omega) (by omega) hc1 hc2 hdg (h H locs ls hP hD hS hL)
        · exact h.elim
      · exact h.elim
    · have h : (match Nat.ble (cats st) 8 with | true => i_bin maxI (fun st => XW p l e R s m args below meth c dC dI cI cZ ad A0 cells slots QQ nL (pc + 3) lv st σ) st | false => False) := h
      split at h
      · rename_i hcat
        have hcat := Nat.le_of_ble_eq_true hcat
        have hlk : Cond.methodLink (cn 11) 94 (mY 106) ∈ TB := in_ml (by simpa using h2)
        have hstt := mOk_st hk hs
        rw [my106] at hlk hstt
        unfold i_bin at h
        split at h
        · rename_i y x r _ _
          have hcr : ((r.map (cv ad)).map fun v => v.category).sum ≤ 8 := by
            rw [cv_cats]
            have : cats (Value.int y :: Value.int x :: r) = 1 + (1 + cats r) := rfl
            omega
          exact va_mmax hx hb (hmx.trans hL.2.1.symm) hown (hts _ hlk) (hts _ hstt) (hts _ (in_ini (o := 15) (by omega))) (hts _ mc106) (by omega) (by omega) hc1 hc2 hdg (h H locs ls hP hD hS hL)
        · exact h.elim
      · exact h.elim
    · refine call_s F hk h53 h106 hs (Or.inl ?_) hdg hP hD hS hL h
      simpa using h2
    · exact call_s F hk (by decide) (by decide) hs (Or.inr ⟨"TradeTests", hC.2.1.2.2.1⟩) hdg hP hD hS hL h
    · exact call_s F hk (by decide) (by decide) hs (Or.inr ⟨"TradeTests", hC.2.1.2.2.2⟩) hdg hP hD hS hL h
  | ireturn =>
    dsimp only at h
    obtain rfl := of_decide_eq_true hI
    unfold p_ret at h
    split at h
    · split at h
      · exact h.elim
      · exact hret.1 pc _ σ H locs ls (by omega) (fun z => absurd rfl z) h hP hD hS hdg
      · rename_i hz0 hz1
        exact hret.1 pc _ σ H locs ls hz0 (fun _ => h.1) h.2 hP hD hS hdg
    · exact h.elim
  | return_ =>
    dsimp only at h
    obtain rfl := of_decide_eq_true hI
    unfold p_rtv at h
    split at h
    · split at h
      · exact hret.2 pc σ H locs ls rfl h hP hD hS hdg
      · exact h.elim
    · exact h.elim
  | _ => exact h.elim
theorem fnd_spec : ∀ {cd : List CE} {pc : Nat} {q : CE}, fnd cd pc = some q → q ∈ cd ∧ q.1 = pc
  | [], _, _, h => by cases h
  | r :: cd, pc, q, h => by
    unfold fnd at h
    split at h
    · rename_i hq
      cases h
      exact ⟨List.mem_cons_self, Nat.eq_of_beq_eq_true hq⟩
    · obtain ⟨h1, h2⟩ := fnd_spec h
      exact ⟨List.mem_cons_of_mem _ h1, h2⟩
theorem fg_at : ∀ {m : List Bool} {lv : LV} {i : Nat} {v : Value}, (fg m lv)[i]? = some (some v) → lv[i]? = some (some v)
  | [], lv, i, v, h => by unfold fg at h; exact h
  | b :: m, [], i, v, h => by simp [fg] at h
  | b :: m, o :: l, 0, v, h => by
    cases b with
    | true => simpa [fg] using h
    | false => simp [fg] at h
  | b :: m, o :: l, i + 1, v, h => by
    have h2 : (fg m l)[i]? = some (some v) := by simpa [fg] using h
    simpa using fg_at h2
theorem fg_len : ∀ {m : List Bool} {lv : LV}, (fg m lv).length = lv.length
  | [], lv => by unfold fg; rfl
  | b :: m, [] => rfl
  | b :: m, o :: l => by simp [fg, fg_len]
theorem LH.fg {nL : Nat} {ls : Array Slot} {lv : LV} (h : LH ad nL ls lv) (m : List Bool) : LH ad nL ls (fg m lv) := by
  refine ⟨by rw [fg_len]; exact h.1, h.2.1, h.2.2.1, ?_⟩
  rintro ⟨i, w⟩ hq
  obtain ⟨v, h1, rfl⟩ := prs_mem.mp hq
  exact h.2.2.2 _ (prs_mem.mpr ⟨v, fg_at h1, rfl⟩)
/-- what the pure machine comes to, the machine comes to -/
theorem snd (F : Frm p l R s m args c own nL cc dC dI cI cZ ad sc A0 d0 cells slots C) {rk : Nat} {Q : Int32 → St → Prop} (hret : RetI p l e R s m args below meth c cc dC dI cI cZ ad A0 cells slots QQ rk Q) {cd : List CE} (hok : ∀ q ∈ cd, okCE own nL cc q = true) {pc : Nat} {lv : LV} {st : List Value} {σ : St}
    (h : Ex sc C rk cd Q pc lv st σ) : XW p l e R s m args below meth c dC dI cI cZ ad A0 cells slots QQ nL pc lv st σ := by
  refine h _ (fun pc lv st σ z => ?_) (fun pc m lv st σ z H locs ls hP hD hS hL => z H locs ls hP hD hS (hL.fg m))
  unfold stC at z
  split at z
  · rename_i q hq
    obtain ⟨h1, rfl⟩ := fnd_spec hq
    exact snd1 F hret (hok q h1) z
  · exact z.elim
end SND
