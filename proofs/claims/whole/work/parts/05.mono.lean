/-! monotone in what comes behind -/
theorem i_un_mono {f : Int32 → Int32} {K K' : List Value → Prop} {st : List Value} (hK : ∀ st, K st → K' st) (h : i_un f K st) : i_un f K' st := by
  unfold i_un at *; split at h <;> first | exact hK _ h | exact h.elim
theorem i_bin_mono {f : Int32 → Int32 → Int32} {K K' : List Value → Prop} {st : List Value} (hK : ∀ st, K st → K' st) (h : i_bin f K st) : i_bin f K' st := by
  unfold i_bin at *; split at h <;> first | exact hK _ h | exact h.elim
theorem i_div_mono {f : Int32 → Int32 → Int32} {K K' : List Value → Prop} {st : List Value} (hK : ∀ st, K st → K' st) (h : i_div f K st) : i_div f K' st := by
  unfold i_div at *; split at h <;> first | exact ⟨h.1, hK _ h.2⟩ | exact h.elim
theorem l_bin_mono {f : Int64 → Int64 → Int64} {K K' : List Value → Prop} {st : List Value} (hK : ∀ st, K st → K' st) (h : l_bin f K st) : l_bin f K' st := by
  unfold l_bin at *; split at h <;> first | exact hK _ h | exact h.elim
theorem l_div_mono {f : Int64 → Int64 → Int64} {K K' : List Value → Prop} {st : List Value} (hK : ∀ st, K st → K' st) (h : l_div f K st) : l_div f K' st := by
  unfold l_div at *; split at h <;> first | exact ⟨h.1, hK _ h.2⟩ | exact h.elim
theorem l_cmp_mono {K K' : List Value → Prop} {st : List Value} (hK : ∀ st, K st → K' st) (h : l_cmp K st) : l_cmp K' st := by
  unfold l_cmp at *; split at h <;> first | exact hK _ h | exact h.elim
theorem c_i2l_mono {K K' : List Value → Prop} {st : List Value} (hK : ∀ st, K st → K' st) (h : c_i2l K st) : c_i2l K' st := by
  unfold c_i2l at *; split at h <;> first | exact hK _ h | exact h.elim
theorem c_l2i_mono {K K' : List Value → Prop} {st : List Value} (hK : ∀ st, K st → K' st) (h : c_l2i K st) : c_l2i K' st := by
  unfold c_l2i at *; split at h <;> first | exact hK _ h | exact h.elim
theorem i_if_mono {B : Int32 → Prop} {T T' F F' : List Value → Prop} {st : List Value} (hT : ∀ st, T st → T' st) (hF : ∀ st, F st → F' st) (h : i_if B T F st) : i_if B T' F' st := by
  unfold i_if at *; split at h <;> first | exact ⟨fun z => hT _ (h.1 z), fun z => hF _ (h.2 z)⟩ | exact h.elim
theorem i_ne_mono {T T' F F' : List Value → Prop} {st : List Value} (hT : ∀ st, T st → T' st) (hF : ∀ st, F st → F' st) (h : i_ne T F st) : i_ne T' F' st := by
  unfold i_ne at *; split at h <;> first | exact ⟨fun z => hT _ (h.1 z), fun z => hF _ (h.2 z)⟩ | exact h.elim
theorem i_cmp_mono {B : Int32 → Int32 → Prop} {T T' F F' : List Value → Prop} {st : List Value} (hT : ∀ st, T st → T' st) (hF : ∀ st, F st → F' st) (h : i_cmp B T F st) : i_cmp B T' F' st := by
  unfold i_cmp at *; split at h <;> first | exact ⟨fun z => hT _ (h.1 z), fun z => hF _ (h.2 z)⟩ | exact h.elim
theorem i_cne_mono {T T' F F' : List Value → Prop} {st : List Value} (hT : ∀ st, T st → T' st) (hF : ∀ st, F st → F' st) (h : i_cne T F st) : i_cne T' F' st := by
  unfold i_cne at *; split at h <;> first | exact ⟨fun z => hT _ (h.1 z), fun z => hF _ (h.2 z)⟩ | exact h.elim
theorem p_ldi_mono {lv : LV} {a : Nat} {K K' : Value → Prop} (hK : ∀ v, K v → K' v) (h : p_ldi lv a K) : p_ldi lv a K' := by
  unfold p_ldi at *; split at h <;> first | exact hK _ h | exact h.elim
theorem p_lda_mono {lv : LV} {a : Nat} {K K' : Value → Prop} (hK : ∀ v, K v → K' v) (h : p_lda lv a K) : p_lda lv a K' := by
  unfold p_lda at *; split at h <;> first | exact hK _ h | exact h.elim
theorem p_ldl_mono {lv : LV} {a : Nat} {K K' : Value → Prop} (hK : ∀ v, K v → K' v) (h : p_ldl lv a K) : p_ldl lv a K' := by
  unfold p_ldl at *; split at h <;> first | exact hK _ h | exact h.elim
theorem p_sti_mono {lv : LV} {a : Nat} {K K' : LV → List Value → Prop} {st : List Value} (hK : ∀ lv st, K lv st → K' lv st) (h : p_sti lv a K st) : p_sti lv a K' st := by
  unfold p_sti at *; split at h
  · split at h
    · exact h.elim
    · exact hK _ _ h
  · exact h.elim
theorem p_sta_mono {lv : LV} {a : Nat} {K K' : LV → List Value → Prop} {st : List Value} (hK : ∀ lv st, K lv st → K' lv st) (h : p_sta lv a K st) : p_sta lv a K' st := by
  unfold p_sta at *; split at h
  · split at h
    · exact h.elim
    · exact hK _ _ h
  · exact h.elim
theorem p_stl_mono {lv : LV} {a : Nat} {K K' : LV → List Value → Prop} {st : List Value} (hK : ∀ lv st, K lv st → K' lv st) (h : p_stl lv a K st) : p_stl lv a K' st := by
  unfold p_stl at *; split at h
  · split at h
    · exact h.elim
    · exact hK _ _ h
  · exact h.elim
theorem p_inc_mono {lv : LV} {a : Nat} {n : Int32} {K K' : LV → Prop} (hK : ∀ lv, K lv → K' lv) (h : p_inc lv a n K) : p_inc lv a n K' := by
  unfold p_inc at *; split at h
  · split at h
    · exact h.elim
    · exact hK _ h
  · exact h.elim
theorem p_iald_mono {sc : Nat × (Nat → Int32)} {K K' : List Value → Prop} {st : List Value} {σ : St} (hK : ∀ st, K st → K' st) (h : p_iald sc K st σ) : p_iald sc K' st σ := by
  unfold p_iald at *; split at h
  · split at h
    · exact ⟨h.1, hK _ h.2⟩
    · exact h.elim
    · split at h
      · exact ⟨h.1, hK _ h.2⟩
      · exact h.elim
  · exact h.elim
theorem p_zald_mono {K K' : List Value → Prop} {st : List Value} {σ : St} (hK : ∀ st, K st → K' st) (h : p_zald K st σ) : p_zald K' st σ := by
  unfold p_zald at *; split at h
  · split at h
    · exact ⟨h.1, hK _ h.2⟩
    · exact h.elim
  · exact h.elim
theorem p_iast_mono {K K' : List Value → St → Prop} {st : List Value} {σ : St} (hK : ∀ st σ, K st σ → K' st σ) (h : p_iast K st σ) : p_iast K' st σ := by
  unfold p_iast at *; split at h
  · split at h
    · exact ⟨h.1, hK _ _ h.2⟩
    · exact h.elim
  · exact h.elim
theorem p_zast_mono {K K' : List Value → St → Prop} {st : List Value} {σ : St} (hK : ∀ st σ, K st σ → K' st σ) (h : p_zast K st σ) : p_zast K' st σ := by
  unfold p_zast at *; split at h
  · split at h
    · exact ⟨h.1, h.2.1, hK _ _ h.2.2⟩
    · exact h.elim
  · exact h.elim
theorem p_len_mono {sc : Nat × (Nat → Int32)} {K K' : List Value → Prop} {st : List Value} (hK : ∀ st, K st → K' st) (h : p_len sc K st) : p_len sc K' st := by
  unfold p_len at *; split at h
  · split at h
    · exact h.elim
    · split at h
      · exact hK _ h
      · exact h.elim
  · exact h.elim
theorem p_get_mono {ci k : Nat} {K K' : List Value → Prop} {st : List Value} {σ : St} (hK : ∀ st, K st → K' st) (h : p_get ci k K st σ) : p_get ci k K' st σ := by
  unfold p_get at *; split at h
  · split at h
    · split at h
      · split at h
        · exact hK _ h
        · exact hK _ h
        · exact h.elim
      · exact h.elim
    · exact h.elim
  · exact h.elim
theorem p_put_mono {ci k : Nat} {K K' : List Value → St → Prop} {st : List Value} {σ : St} (hK : ∀ st σ, K st σ → K' st σ) (h : p_put ci k K st σ) : p_put ci k K' st σ := by
  unfold p_put at *; split at h
  · split at h
    · split at h
      · split at h
        · exact hK _ _ h
        · exact h.elim
      · exact h.elim
    · exact h.elim
  · exact h.elim
theorem p_sw_mono {x : Int32} {K K' : Nat → Prop} (hK : ∀ t, K t → K' t) {a : Nat} : ∀ {sw : List (Int32 × Nat)}, p_sw sw x K a → p_sw sw x K' a
  | [], h => hK _ h
  | _ :: _, h => ⟨fun z => hK _ (h.1 z), fun z => p_sw_mono hK (h.2 z)⟩
theorem p_swi_mono {sw : List (Int32 × Nat)} {K K' : Nat → List Value → Prop} {a : Nat} {st : List Value} (hK : ∀ t st, K t st → K' t st) (h : p_swi sw K a st) : p_swi sw K' a st := by
  unfold p_swi at *; split at h
  · exact p_sw_mono (fun t => hK t _) h
  · exact h.elim
theorem p_dup_mono {K K' : List Value → Prop} {st : List Value} (hK : ∀ st, K st → K' st) (h : p_dup K st) : p_dup K' st := by
  unfold p_dup at *; split at h
  · split at h
    · exact hK _ h
    · exact h.elim
  · exact h.elim
theorem p_dup2_mono {K K' : List Value → Prop} {st : List Value} (hK : ∀ st, K st → K' st) (h : p_dup2 K st) : p_dup2 K' st := by
  unfold p_dup2 at *; split at h
  · split at h
    · exact hK _ h
    · exact h.elim
  · exact h.elim
theorem p_pop_mono {K K' : List Value → Prop} {st : List Value} (hK : ∀ st, K st → K' st) (h : p_pop K st) : p_pop K' st := by
  unfold p_pop at *; split at h
  · split at h
    · exact hK _ h
    · exact h.elim
  · exact h.elim
theorem p_call_mono {C : CT} (hC : MonC C) {vd : Bool} {a b : Nat} {ok : List Value → Bool} {K K' : List Value → St → Prop} {st : List Value} {σ : St} (hK : ∀ st σ, K st σ → K' st σ) (h : p_call C vd a b ok K st σ) : p_call C vd a b ok K' st σ := by
  unfold p_call at *; split at h
  · exact hC _ _ _ _ _ (fun r σ' z => hK _ _ z) h
  · exact h.elim
theorem p_ret_mono {rk : Nat} {Q Q' : Int32 → Prop} {st : List Value} (hQ : ∀ x, Q x → Q' x) (h : p_ret rk Q st) : p_ret rk Q' st := by
  unfold p_ret at *; split at h
  · split at h
    · exact h.elim
    · exact hQ _ h
    · exact ⟨h.1, hQ _ h.2⟩
  · exact h.elim
theorem p_rtv_mono {rk : Nat} {Q Q' : Prop} {st : List Value} (hQ : Q → Q') (h : p_rtv rk Q st) : p_rtv rk Q' st := by
  unfold p_rtv at *; split at h
  · split at h
    · exact hQ h
    · exact h.elim
  · exact h.elim
set_option maxHeartbeats 4000000 in
theorem stp_mono {sc : Nat × (Nat → Int32)} {C : CT} {rk : Nat} {Q Q' : Int32 → St → Prop} {K K' : KT} {q : CE} {lv : LV} {st : List Value} {σ : St} (hC : MonC C) (hQ : ∀ r σ, Q r σ → Q' r σ) (hK : ∀ pc lv st σ, K pc lv st σ → K' pc lv st σ) (h : stp sc C rk Q K q lv st σ) : stp sc C rk Q' K' q lv st σ := by
  obtain ⟨pc, len, ins, imm, a, b, d, sw⟩ := q
  cases ins with
  | iconst n => exact hK _ _ _ _ h
  | bipush n => exact hK _ _ _ _ h
  | sipush n => exact hK _ _ _ _ h
  | ldc n => exact hK _ _ _ _ h
  | ldc_w n => exact hK _ _ _ _ h
  | lconst n => exact hK _ _ _ _ h
  | ldc2_w n => exact hK _ _ _ _ h
  | iload_n n => (unfold stp at h ⊢; dsimp only at h ⊢; exact p_ldi_mono (fun v => hK _ _ _ _) h)
  | iload n => (unfold stp at h ⊢; dsimp only at h ⊢; exact p_ldi_mono (fun v => hK _ _ _ _) h)
  | aload_n n => (unfold stp at h ⊢; dsimp only at h ⊢; exact p_lda_mono (fun v => hK _ _ _ _) h)
  | aload n => (unfold stp at h ⊢; dsimp only at h ⊢; exact p_lda_mono (fun v => hK _ _ _ _) h)
  | lload_n n => (unfold stp at h ⊢; dsimp only at h ⊢; exact p_ldl_mono (fun v => hK _ _ _ _) h)
  | lload n => (unfold stp at h ⊢; dsimp only at h ⊢; exact p_ldl_mono (fun v => hK _ _ _ _) h)
  | istore_n n => (unfold stp at h ⊢; dsimp only at h ⊢; exact p_sti_mono (fun lv st => hK _ _ _ _) h)
  | istore n => (unfold stp at h ⊢; dsimp only at h ⊢; exact p_sti_mono (fun lv st => hK _ _ _ _) h)
  | astore_n n => (unfold stp at h ⊢; dsimp only at h ⊢; exact p_sta_mono (fun lv st => hK _ _ _ _) h)
  | astore n => (unfold stp at h ⊢; dsimp only at h ⊢; exact p_sta_mono (fun lv st => hK _ _ _ _) h)
  | lstore_n n => (unfold stp at h ⊢; dsimp only at h ⊢; exact p_stl_mono (fun lv st => hK _ _ _ _) h)
  | lstore n => (unfold stp at h ⊢; dsimp only at h ⊢; exact p_stl_mono (fun lv st => hK _ _ _ _) h)
  | iinc i n => (unfold stp at h ⊢; dsimp only at h ⊢; exact p_inc_mono (fun lv => hK _ _ _ _) h)
  | iadd => (unfold stp at h ⊢; dsimp only at h ⊢; exact i_bin_mono (fun st => hK _ _ _ _) h)
  | isub => (unfold stp at h ⊢; dsimp only at h ⊢; exact i_bin_mono (fun st => hK _ _ _ _) h)
  | imul => (unfold stp at h ⊢; dsimp only at h ⊢; exact i_bin_mono (fun st => hK _ _ _ _) h)
  | iand => (unfold stp at h ⊢; dsimp only at h ⊢; exact i_bin_mono (fun st => hK _ _ _ _) h)
  | ior => (unfold stp at h ⊢; dsimp only at h ⊢; exact i_bin_mono (fun st => hK _ _ _ _) h)
  | ixor => (unfold stp at h ⊢; dsimp only at h ⊢; exact i_bin_mono (fun st => hK _ _ _ _) h)
  | ishl => (unfold stp at h ⊢; dsimp only at h ⊢; exact i_bin_mono (fun st => hK _ _ _ _) h)
  | ishr => (unfold stp at h ⊢; dsimp only at h ⊢; exact i_bin_mono (fun st => hK _ _ _ _) h)
  | iushr => (unfold stp at h ⊢; dsimp only at h ⊢; exact i_bin_mono (fun st => hK _ _ _ _) h)
  | idiv => (unfold stp at h ⊢; dsimp only at h ⊢; exact i_div_mono (fun st => hK _ _ _ _) h)
  | irem => (unfold stp at h ⊢; dsimp only at h ⊢; exact i_div_mono (fun st => hK _ _ _ _) h)
  | ineg => (unfold stp at h ⊢; dsimp only at h ⊢; exact i_un_mono (fun st => hK _ _ _ _) h)
  | lsub => (unfold stp at h ⊢; dsimp only at h ⊢; exact l_bin_mono (fun st => hK _ _ _ _) h)
  | lmul => (unfold stp at h ⊢; dsimp only at h ⊢; exact l_bin_mono (fun st => hK _ _ _ _) h)
  | ldiv => (unfold stp at h ⊢; dsimp only at h ⊢; exact l_div_mono (fun st => hK _ _ _ _) h)
  | lcmp => (unfold stp at h ⊢; dsimp only at h ⊢; exact l_cmp_mono (fun st => hK _ _ _ _) h)
  | i2l => (unfold stp at h ⊢; dsimp only at h ⊢; exact c_i2l_mono (fun st => hK _ _ _ _) h)
  | l2i => (unfold stp at h ⊢; dsimp only at h ⊢; exact c_l2i_mono (fun st => hK _ _ _ _) h)
  | dup => (unfold stp at h ⊢; dsimp only at h ⊢; exact p_dup_mono (fun st => hK _ _ _ _) h)
  | dup2 => (unfold stp at h ⊢; dsimp only at h ⊢; exact p_dup2_mono (fun st => hK _ _ _ _) h)
  | pop => (unfold stp at h ⊢; dsimp only at h ⊢; exact p_pop_mono (fun st => hK _ _ _ _) h)
  | goto o => exact hK _ _ _ _ h
  | ifCond cc o =>
    cases cc with
    | eq => (unfold stp at h ⊢; dsimp only at h ⊢; exact i_if_mono (fun st => hK _ _ _ _) (fun st => hK _ _ _ _) h)
    | ne => (unfold stp at h ⊢; dsimp only at h ⊢; exact i_ne_mono (fun st => hK _ _ _ _) (fun st => hK _ _ _ _) h)
    | lt => (unfold stp at h ⊢; dsimp only at h ⊢; exact i_if_mono (fun st => hK _ _ _ _) (fun st => hK _ _ _ _) h)
    | ge => (unfold stp at h ⊢; dsimp only at h ⊢; exact i_if_mono (fun st => hK _ _ _ _) (fun st => hK _ _ _ _) h)
    | gt => (unfold stp at h ⊢; dsimp only at h ⊢; exact i_if_mono (fun st => hK _ _ _ _) (fun st => hK _ _ _ _) h)
    | le => (unfold stp at h ⊢; dsimp only at h ⊢; exact i_if_mono (fun st => hK _ _ _ _) (fun st => hK _ _ _ _) h)
  | if_icmp cc o =>
    cases cc with
    | eq => (unfold stp at h ⊢; dsimp only at h ⊢; exact i_cmp_mono (fun st => hK _ _ _ _) (fun st => hK _ _ _ _) h)
    | ne => (unfold stp at h ⊢; dsimp only at h ⊢; exact i_cne_mono (fun st => hK _ _ _ _) (fun st => hK _ _ _ _) h)
    | lt => (unfold stp at h ⊢; dsimp only at h ⊢; exact i_cmp_mono (fun st => hK _ _ _ _) (fun st => hK _ _ _ _) h)
    | ge => (unfold stp at h ⊢; dsimp only at h ⊢; exact i_cmp_mono (fun st => hK _ _ _ _) (fun st => hK _ _ _ _) h)
    | gt => (unfold stp at h ⊢; dsimp only at h ⊢; exact i_cmp_mono (fun st => hK _ _ _ _) (fun st => hK _ _ _ _) h)
    | le => (unfold stp at h ⊢; dsimp only at h ⊢; exact i_cmp_mono (fun st => hK _ _ _ _) (fun st => hK _ _ _ _) h)
  | tableswitch f lo hi os => (unfold stp at h ⊢; dsimp only at h ⊢; exact p_swi_mono (fun t st => hK _ _ _ _) h)
  | lookupswitch f ps => (unfold stp at h ⊢; dsimp only at h ⊢; exact p_swi_mono (fun t st => hK _ _ _ _) h)
  | iaload => (unfold stp at h ⊢; dsimp only at h ⊢; exact p_iald_mono (fun st => hK _ _ _ _) h)
  | baload => (unfold stp at h ⊢; dsimp only at h ⊢; exact p_zald_mono (fun st => hK _ _ _ _) h)
  | iastore => (unfold stp at h ⊢; dsimp only at h ⊢; exact p_iast_mono (fun st σ => hK _ _ _ _) h)
  | bastore => (unfold stp at h ⊢; dsimp only at h ⊢; exact p_zast_mono (fun st σ => hK _ _ _ _) h)
  | arraylength => (unfold stp at h ⊢; dsimp only at h ⊢; exact p_len_mono (fun st => hK _ _ _ _) h)
  | getfield i => (unfold stp at h ⊢; dsimp only at h ⊢; exact p_get_mono (fun st => hK _ _ _ _) h)
  | putfield i => (unfold stp at h ⊢; dsimp only at h ⊢; exact p_put_mono (fun st σ => hK _ _ _ _) h)
  | getstatic i => exact hK _ _ _ _ h
  | invokevirtual i => (unfold stp at h ⊢; dsimp only at h ⊢; exact p_call_mono hC (fun st σ => hK _ _ _ _) h)
  | invokestatic i =>
    unfold stp at h ⊢
    dsimp only at h ⊢
    split at h
    · split at h
      · exact i_un_mono (fun st => hK _ _ _ _) h
      · exact h.elim
    · split at h
      · exact i_bin_mono (fun st => hK _ _ _ _) h
      · exact h.elim
    · exact p_call_mono hC (fun st σ => hK _ _ _ _) h
  | ireturn => (unfold stp at h ⊢; dsimp only at h ⊢; exact p_ret_mono (fun x => hQ x _) h)
  | return_ => (unfold stp at h ⊢; dsimp only at h ⊢; exact p_rtv_mono (hQ 0 _) h)
  | _ => exact h.elim
theorem stC_mono {sc : Nat × (Nat → Int32)} {C : CT} {rk : Nat} {cd : List CE} {Q Q' : Int32 → St → Prop} {K K' : KT} {pc : Nat} {lv : LV} {st : List Value} {σ : St} (hC : MonC C) (hQ : ∀ r σ, Q r σ → Q' r σ) (hK : ∀ pc lv st σ, K pc lv st σ → K' pc lv st σ) (h : stC sc C rk cd Q K pc lv st σ) : stC sc C rk cd Q' K' pc lv st σ := by
  unfold stC at *
  split at h
  · exact stp_mono hC hQ hK h
  · exact h.elim
theorem Ex_fold {sc : Nat × (Nat → Int32)} {C : CT} {rk : Nat} {cd : List CE} {Q : Int32 → St → Prop} {pc : Nat} {lv : LV} {st : List Value} {σ : St} (hC : MonC C) (h : stC sc C rk cd Q (Ex sc C rk cd Q) pc lv st σ) : Ex sc C rk cd Q pc lv st σ :=
  fun X hX hF => hX _ _ _ _ (stC_mono hC (fun _ _ z => z) (fun _ _ _ _ z => z X hX hF) h)
theorem Ex_fg {sc : Nat × (Nat → Int32)} {C : CT} {rk : Nat} {cd : List CE} {Q : Int32 → St → Prop} {pc : Nat} {lv : LV} {st : List Value} {σ : St} (m : List Bool) (h : Ex sc C rk cd Q pc (fg m lv) st σ) : Ex sc C rk cd Q pc lv st σ :=
  fun X hX hF => hF _ _ _ _ _ (h X hX hF)
theorem Ex_mono {sc : Nat × (Nat → Int32)} {C : CT} {rk : Nat} {cd : List CE} {Q Q' : Int32 → St → Prop} {pc : Nat} {lv : LV} {st : List Value} {σ : St} (hC : MonC C) (hQ : ∀ r σ, Q r σ → Q' r σ) (h : Ex sc C rk cd Q pc lv st σ) : Ex sc C rk cd Q' pc lv st σ :=
  fun X hX hF => h X (fun _ _ _ _ z => hX _ _ _ _ (stC_mono hC hQ (fun _ _ _ _ z => z) z)) hF
theorem wpn_Ex {sc : Nat × (Nat → Int32)} {C : CT} {rk : Nat} {cd : List CE} {cuts : List Nat} {Q : Int32 → St → Prop} {K : KT} (hC : MonC C) (hK : ∀ pc lv st σ, K pc lv st σ → Ex sc C rk cd Q pc lv st σ) : ∀ (n : Nat) (pc : Nat) (lv : LV) (st : List Value) (σ : St), wpn sc C rk cd cuts Q K n pc lv st σ → Ex sc C rk cd Q pc lv st σ
  | 0, pc, lv, st, σ, h => hK _ _ _ _ h
  | n + 1, pc, lv, st, σ, h => by
    unfold wpn at h
    split at h
    · exact hK _ _ _ _ h
    · exact Ex_fold hC (stC_mono hC (fun _ _ z => z) (fun pc lv st σ z => wpn_Ex hC hK n pc lv st σ z) h)
theorem stw_Ex {sc : Nat × (Nat → Int32)} {C : CT} {rk : Nat} {cd : List CE} {cuts : List Nat} {Q : Int32 → St → Prop} (hC : MonC C) (n : Nat) {pc : Nat} {lv : LV} {st : List Value} {σ : St} (h : stC sc C rk cd Q (wpn sc C rk cd cuts Q (Ex sc C rk cd Q) n) pc lv st σ) : Ex sc C rk cd Q pc lv st σ :=
  Ex_fold hC (stC_mono hC (fun _ _ z => z) (fun pc lv st σ z => wpn_Ex hC (fun _ _ _ _ z => z) n pc lv st σ z) h)
