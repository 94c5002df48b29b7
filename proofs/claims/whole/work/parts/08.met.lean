/-! contracts of all methods out of the pure machine -/
def lv0 (k : Nat) (as : List Value) : LV := as.map some ++ List.replicate (mL k - as.length) none
theorem lg_sl1 : ∀ {vs : List Value}, (∀ v ∈ vs, v.category = 1) → (lg_sl vs).length = vs.length
  | [], _ => rfl
  | v :: vs, h => by
    have h1 := h v List.mem_cons_self
    have ih := lg_sl1 (vs := vs) (fun w hw => h w (List.mem_cons_of_mem _ hw))
    unfold lg_sl at ih ⊢
    rw [List.flatMap_cons, List.length_append, ih, if_neg (by omega)]
    simp; omega
theorem lv_args1 : ∀ {vs : List Value} {n i : Nat} {v : Value}, (∀ v ∈ vs, v.category = 1) → vs[i]? = some v → (n + i, v) ∈ lv_args n vs
  | [], n, i, v, _, h => by simp at h
  | w :: vs, n, 0, v, hc, h => by
    simp at h
    subst h
    exact List.mem_cons_self
  | w :: vs, n, i + 1, v, hc, h => by
    have h1 := hc w List.mem_cons_self
    have ih := lv_args1 (vs := vs) (n := n + 1) (i := i) (v := v) (fun z hz => hc z (List.mem_cons_of_mem _ hz)) (by simpa using h)
    unfold lv_args
    rw [if_neg (by omega)]
    refine List.mem_cons_of_mem _ ?_
    rw [show n + (i + 1) = n + 1 + i by omega]
    exact ih
theorem LH0 {ad : Nat → Nat} {k : Nat} {as : List Value} (hc : ∀ v ∈ as, v.category = 1) (hn : as.length ≤ mL k) : LH ad (mL k) ((lg_sl (as.map (cv ad)) ++ List.replicate (mL k - (lg_sl (as.map (cv ad))).length) Slot.unset).toArray) (lv0 k as) := by
  have hc' : ∀ v ∈ as.map (cv ad), v.category = 1 := by
    intro v hv
    obtain ⟨w, hw, rfl⟩ := List.mem_map.mp hv
    rw [cv_cat]; exact hc w hw
  have hl := lv_entry (as.map (cv ad)) (n := mL k) (by rw [lg_sl1 hc', List.length_map]; exact hn)
  refine ⟨by simp [lv0]; omega, hl.1, hl.2.1, ?_⟩
  rintro ⟨i, w⟩ hq
  obtain ⟨v, h1, rfl⟩ := prs_mem.mp hq
  have hi : as[i]? = some v := by
    unfold lv0 at h1
    rcases Nat.lt_or_ge i as.length with hlt | hge
    · rw [List.getElem?_append_left (by rw [List.length_map]; exact hlt), List.getElem?_map] at h1
      cases hz : as[i]? with
      | none => rw [hz] at h1; cases h1
      | some z => rw [hz] at h1; simp at h1; rw [h1]
    · rw [List.getElem?_append_right (by rw [List.length_map]; exact hge)] at h1
      have := List.eq_of_mem_replicate (List.mem_of_getElem? h1)
      cases this
  have h2 := lv_args1 (n := 0) (i := i) hc' (show (as.map (cv ad))[i]? = some (cv ad v) by rw [List.getElem?_map, hi]; rfl)
  rw [Nat.zero_add] at h2
  exact hl.2.2 _ h2
/-- only calls of methods below a depth -/
def CDd (C : CT) (dep : Nat → Nat) (d : Nat) : CT := fun k as σ Q => dep k ≤ d ∧ C k as σ Q
theorem CDd_mon {C : CT} (hC : MonC C) (dep : Nat → Nat) (d : Nat) : MonC (CDd C dep d) := fun k as σ Q Q' hQ h => ⟨h.1, hC k as σ Q Q' hQ h.2⟩
def dpOk (dep : Nat → Nat) (d : Nat) (q : CE) : Bool := match q with
  | (_, _, ins, _, a, _, b, _) => (match ins with
    | .invokevirtual _ => Nat.ble (dep a) d
    | .invokestatic _ => Nat.beq b 53 || Nat.beq b 106 || Nat.ble (dep a) d
    | _ => true)
theorem p_call_dep {C : CT} {dep : Nat → Nat} {d : Nat} {vd : Bool} {a b : Nat} (hd : dep a ≤ d) {ok : List Value → Bool} {K : List Value → St → Prop} {st : List Value} {σ : St} (h : p_call C vd a b ok K st σ) : p_call (CDd C dep d) vd a b ok K st σ := by
  unfold p_call at *
  split at h
  · exact ⟨hd, h⟩
  · exact h.elim
set_option maxHeartbeats 4000000 in
theorem stp_dep {sc : Nat × (Nat → Int32)} {C : CT} {dep : Nat → Nat} {d : Nat} {rk : Nat} {Q : Int32 → St → Prop} {K : KT} {q : CE} (hq : dpOk dep d q = true) {lv : LV} {st : List Value} {σ : St} (h : stp sc C rk Q K q lv st σ) : stp sc (CDd C dep d) rk Q K q lv st σ := by
  obtain ⟨pc, len, ins, imm, a, b, dd, sw⟩ := q
  cases ins with
  | invokevirtual i =>
    unfold stp at h ⊢
    dsimp only at h ⊢
    exact p_call_dep (Nat.le_of_ble_eq_true hq) h
  | invokestatic i =>
    unfold stp at h ⊢
    unfold dpOk at hq
    dsimp only at h hq ⊢
    split at h
    · exact h
    · exact h
    · rename_i h1 h2
      rw [h1, h2] at hq
      exact p_call_dep (Nat.le_of_ble_eq_true hq) h
  | ifCond cc o => cases cc <;> exact h
  | if_icmp cc o => cases cc <;> exact h
  | _ => exact h
theorem Ex_dep {sc : Nat × (Nat → Int32)} {C : CT} {dep : Nat → Nat} {d : Nat} {rk : Nat} {cd : List CE} (hcd : ∀ q ∈ cd, dpOk dep d q = true) {Q : Int32 → St → Prop} {pc : Nat} {lv : LV} {st : List Value} {σ : St} (h : Ex sc C rk cd Q pc lv st σ) : Ex sc (CDd C dep d) rk cd Q pc lv st σ := by
  intro X hX hF
  refine h X (fun pc lv st σ z => hX _ _ _ _ ?_) hF
  unfold stC at *
  split at z
  · rename_i q hq
    exact stp_dep (hcd q (fnd_spec hq).1) z
  · exact z.elim
theorem plain_k {k : Nat} (h : k < NM) (h1 : mO k ≠ 15) : plainName (mY k).cls = true := by
  have q := mOk_all h
  unfold mOk at q
  simp only [Bool.and_eq_true, decide_eq_true_eq] at q
  obtain ⟨⟨⟨⟨⟨⟨⟨⟨⟨q1, q2⟩, q3⟩, q4⟩, q5⟩, q6⟩, q7⟩, q8⟩, q9⟩, -⟩ := q
  exact q3.resolve_left h1
set_option maxRecDepth 100000 in
theorem mo15 : ((List.range NM).all fun k => decide (k = 53 ∨ k = 106 ∨ mO k ≠ 15)) = true := by decide +kernel
set_option maxHeartbeats 4000000 in
theorem met_one {l : Launch} {dC : Nat → ClassId} {dI : Nat → Nat → Nat} {cI cZ : ClassId} {ad : Nat → Nat} {sc : Nat × (Nat → Int32)} {C : CT} {d k : Nat} (hk : k < NM) (h53 : k ≠ 53) (h106 : k ≠ 106) (hM : ∀ k, k < NM → k ≠ 53 → k ≠ 106 → MetK l dC dI cI cZ ad sc C k d) {cd : List CE} (hcd : ∀ q ∈ cd, okCE (mO k) (mL k) (mB k) q = true) {as : List Value} (hc : ∀ v ∈ as, v.category = 1) (hn : as.length ≤ mL k) {σ : St} {Q : Int32 → St → Prop}
    (hE : Ex sc C (mRk k) cd Q 0 (lv0 k as) [] σ) : Met l (mY k) (wkK k) (rmD (d + 1)) (va_Pc (as.map (cv ad)) (WB dC dI cI cZ ad sc σ)) (QcK dC dI cI cZ ad sc k Q) 0 0 (ADA ad) := by
  have hpl : plainName (mY k).cls = true := plain_k hk (((of_decide_eq_true (all_rg mo15 hk)).resolve_left h53).resolve_left h106)
  refine Met.ofW (cc := mB k) (maxL := mL k) (ret := mR k) hpl rfl ?_
  intro p e s m args below meth c s₁ B hml hv
  obtain ⟨rfl, hP, hD, hCtx⟩ := hv
  have hts : ∀ w ∈ TB, w.before (as.map (cv ad)).toArray s = true := fun w hw => atoms_spec (ws := wkK k) B.pre w (List.mem_cons_of_mem _ hw)
  have hown : s.vm.findClass (cn (mO k)) = some m.cls := findClass_of_methodNamed B.named
  have hlocks := B.notSynchronized
  have hr := B.returns
  have F : Frm p l (headSpec (wkK k) (rmD (d + 1))).room s m (as.map (cv ad)).toArray c (mO k) (mL k) (mB k) dC dI cI cZ ad sc (ADA ad) d 0 0 C := ⟨B.exec, B.bytes, hml, hown, hts, hCtx, fun _ z => z, Nat.le_refl _, Nat.le_refl _, Nat.zero_le _, Nat.zero_le _, hM⟩
  have hret : RetI p l e (headSpec (wkK k) (rmD (d + 1))).room s m (as.map (cv ad)).toArray below meth c (mB k) dC dI cI cZ ad (ADA ad) 0 0 (MQ below (QcK dC dI cI cZ ad sc k Q) (as.map (cv ad)).toArray s 0 0 (ADA ad)) (mRk k) Q := by
    have hend : ∀ (t : State) (σ' : St) (H : Heap) (locs : List Loc), t.heap = H → s.WarmedH t.vm → va_P (dC, dI) cls (wW cI cZ ad σ') H → va_D (ADA ad) (wW cI cZ ad σ') → va_S (ADA ad) s.heap H locs → WB dC dI cI cZ ad sc σ' t ∧ va_F (ADA ad) s t := fun t σ' H locs ht hW hP' hD' hS' => ⟨⟨by rw [ht]; exact hP', hD', hCtx.moved hW hS' (fun _ z => z) ht⟩, hS'.F ht⟩
    refine ⟨fun pc x σ' H locs ls hz hbo hQ hP' hD' hS' hdg => ?_, fun pc σ' H locs ls hz hQ hP' hD' hS' hdg => ?_⟩
    · have hq : ∀ t : State, t.heap = H → s.WarmedH t.vm → QcK dC dI cI cZ ad sc k Q (as.map (cv ad)).toArray s (.returned (some (.int x))) t := by
        intro t ht hW
        unfold QcK
        have hb0 : Nat.beq (mRk k) 0 = false := by
          cases hbq : Nat.beq (mRk k) 0 with
          | false => rfl
          | true => exact absurd (Nat.eq_of_beq_eq_true hbq) hz
        rw [hb0]
        obtain ⟨g1, g2⟩ := hend t σ' H locs ht hW hP' hD' hS'
        exact ⟨⟨x, σ', rfl, hQ, g1⟩, g2⟩
      by_cases h1 : mRk k = 1
      · have hr1 : meth.sig.returnType = some .int := by rw [hr]; show rty (mRk k) = _; rw [h1]; rfl
        exact W.iret B.exec B.bytes hr1 hq hS'.2.2 hdg
      · have hr2 : meth.sig.returnType = some .boolean := by
          rw [hr]; show rty (mRk k) = _
          unfold rty
          split
          · omega
          · omega
          · rfl
        exact W.zret B.exec B.bytes hr2 (nar_b' (hbo h1)) hq hS'.2.2 hdg
    · have hq : ∀ t : State, t.heap = H → s.WarmedH t.vm → QcK dC dI cI cZ ad sc k Q (as.map (cv ad)).toArray s (.returned none) t := by
        intro t ht hW
        unfold QcK
        rw [hz]
        obtain ⟨g1, g2⟩ := hend t σ' H locs ht hW hP' hD' hS'
        exact ⟨⟨σ', rfl, hQ, g1⟩, g2⟩
      have hr0 : meth.sig.returnType = none := by rw [hr]; show rty (mRk k) = _; rw [hz]; rfl
      exact W.vret B.exec B.bytes hr0 hq hS'.2.2 hdg
  rw [lg_entry_eq]
  exact snd F hret hcd hE s.heap [] _ hP hD va_S.rf (LH0 hc hn)
/-- all contracts, by the depth of the calls -/
theorem all_met {l : Launch} {dC : Nat → ClassId} {dI : Nat → Nat → Nat} {cI cZ : ClassId} {ad : Nat → Nat} {sc : Nat × (Nat → Int32)} {C : CT} {dep : Nat → Nat} {cdf : Nat → List CE} (hargs : ∀ k as σ Q, C k as σ Q → as.length = mA k ∧ ∀ v ∈ as, v.category = 1)
    (hcd : ∀ k, k < NM → k ≠ 53 → k ≠ 106 → ∀ q ∈ cdf k, okCE (mO k) (mL k) (mB k) q = true ∧ ∀ d, dep k ≤ d + 1 → dpOk dep d q = true) (hdep : ∀ k, 0 < dep k)
    (hpure : ∀ k, k < NM → k ≠ 53 → k ≠ 106 → ∀ as σ Q, C k as σ Q → Ex sc C (mRk k) (cdf k) Q 0 (lv0 k as) [] σ) : ∀ d k, k < NM → k ≠ 53 → k ≠ 106 → MetK l dC dI cI cZ ad sc (CDd C dep d) k d
  | 0, k, _, _, _ => fun as σ Q h => absurd h.1 (by have := hdep k; omega)
  | d + 1, k, hk, h53, h106 => fun as σ Q h => by
    have ha := hargs k as σ Q h.2
    refine met_one hk h53 h106 (all_met hargs hcd hdep hpure d) (fun q hq => (hcd k hk h53 h106 q hq).1) ha.2 (by rw [ha.1]; exact (mOk_spec hk h53 h106).2.2.2.2.2.1) ?_
    exact Ex_dep (fun q hq => (hcd k hk h53 h106 q hq).2 d h.1) (hpure k hk h53 h106 as σ Q h.2)
