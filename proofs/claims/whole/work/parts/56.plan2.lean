/-! the plan: worths of the class, the model's plan -/
theorem Ex2.up1 {c1 c2 : Nat} {σ τ : St} (h : Ex2 c1 c2 σ τ) (i : Nat) (z : Int32) : Ex2 c1 c2 σ (up τ c1 i z) := fun d h1 h2 => by
  rw [up_ne τ i z h1]
  exact h d h1 h2
theorem Ex2.up2' {c1 c2 : Nat} {σ τ : St} (h : Ex2 c1 c2 σ τ) (i : Nat) (z : Int32) : Ex2 c1 c2 σ (up τ c2 i z) := fun d h1 h2 => by
  rw [up_ne τ i z h2]
  exact h d h1 h2
section
variable {σ : St} {v g t m n x s b w : Nat}
theorem Wf.e101i (H : Wf σ v g t m n x s b w) (ko : Int32 → St → MR) {τ : St} {q : Nat} (hq : q < g) (h1 : Ex2 11 48 σ τ) (h6 : τ 11 6 = rk σ m n x (nI q)) (h7 : τ 11 7 = se σ m n (nI q)) (hw : ∀ c p, c < s → p < q → τ 48 (c * 6 + p) = wo σ m n x c (nI p)) : ∃ τ', lp_101_20 ko FU (nI q) (nI 0) τ = ko (nI q + 1) τ' ∧ Ex2 11 48 σ τ' ∧ ∀ c p, c < s → p < q + 1 → τ' 48 (c * 6 + p) = wo σ m n x c (nI p) := by
  have hs := H.s2
  have hg := H.g2
  have hlp := iloop (fun f i ρ => lp_101_20 ko f (nI q) (nI i) ρ) (fun j ρ => (Ex2 11 48 σ ρ ∧ ρ 11 6 = rk σ m n x (nI q) ∧ ρ 11 7 = se σ m n (nI q)) ∧ (∀ c p, c < s → p < q → ρ 48 (c * 6 + p) = wo σ m n x c (nI p)) ∧ ∀ c, c < j → ρ 48 (c * 6 + q) = wo σ m n x c (nI q)) s ?_ s 0 FU τ (by omega) (FU_big (by omega)) ⟨⟨h1, h6, h7⟩, hw, fun c hc => absurd hc (by omega)⟩
  · obtain ⟨k, ρ, ⟨⟨r1, r2, r3⟩, r4, r5⟩, e⟩ := hlp
    refine ⟨ρ, ?_, r1, ?_⟩
    · have e : lp_101_20 ko FU (nI q) (nI 0) τ = lp_101_20 ko (k + 1) (nI q) (nI s) ρ := e
      rw [e, lp_101_20, (H.fr (r1.fr rfl rfl)).s1, if_pos (nI_le (Nat.le_refl s) (by omega))]
    · intro c p hc hp
      by_cases z : p = q
      · rw [z]
        exact r5 c hc
      · exact r4 c p hc (by omega)
  · intro f j ρ hj ⟨⟨r1, r2, r3⟩, r4, r5⟩
    have e45 : ρ 45 = σ 45 := r1 45 (by omega) (by omega)
    refine ⟨up ρ 48 (j * 6 + q) (wo σ m n x j (nI q)), ⟨⟨r1.up2' _ _, r2, r3⟩, ?_, ?_⟩, ?_⟩
    · intro c p hc hp
      show upd (ρ 48) (j * 6 + q) _ (c * 6 + p) = _
      rw [pk_un (by omega)]
      exact r4 c p hc hp
    · intro c hc
      show upd (ρ 48) (j * 6 + q) _ (c * 6 + q) = _
      by_cases z : c = j
      · rw [z, pk_us]
      · rw [pk_un (by omega)]
        exact r5 c (by omega)
    · show lp_101_20 ko (f + 1) (nI q) (nI j) ρ = lp_101_20 ko f (nI q) (nI (j + 1)) _
      rw [lp_101_20, (H.fr (r1.fr rfl rfl)).s1, if_neg (nI_ge hj (by omega)), e99 (show j < 6 by omega), bn_rt, ix6, mb_t (vp_in_nI (show j * 6 + q < 36 by omega) (by omega)), nI_cl (by omega), r2, r3, e45, nI_1]
      rfl
theorem Wf.e101 (H : Wf σ v g t m n x s b w) : ∃ τ, sp_101 σ = rt 0 τ ∧ Ex2 11 48 σ τ ∧ ∀ c p, c < s → p < g → τ 48 (c * 6 + p) = wo σ m n x c (nI p) := by
  have hg := H.g2
  unfold sp_101
  have hlp := iloop (fun f i ρ => lp_101_2 f (nI i) ρ) (fun j ρ => Ex2 11 48 σ ρ ∧ ∀ c p, c < s → p < j → ρ 48 (c * 6 + p) = wo σ m n x c (nI p)) g ?_ g 0 FU σ (by omega) (FU_big (by omega)) ⟨fun _ _ _ => rfl, fun c p _ hp => absurd hp (by omega)⟩
  · obtain ⟨k, ρ, ⟨r1, r2⟩, e⟩ := hlp
    refine ⟨ρ, ?_, r1, r2⟩
    have e : lp_101_2 FU (nI 0) σ = lp_101_2 (k + 1) (nI g) ρ := e
    show lp_101_2 FU (nI 0) σ = _
    rw [e, lp_101_2, (H.fr (r1.fr rfl rfl)).g1, if_pos (nI_le (Nat.le_refl g) (by omega))]
  · intro f j ρ hj ⟨r1, r2⟩
    have f1 := r1.fr (c1 := 11) (c2 := 48) rfl rfl
    have Hρ := H.fr f1
    obtain ⟨τ1, e1', h1, h6, h7⟩ := Hρ.e49 (nI j)
    rw [rk_fr f1] at h6
    rw [se_fr f1] at h7
    have h2 : Ex2 11 48 σ τ1 := fun d d1 d2 => (h1 d d1).trans (r1 d d1 d2)
    obtain ⟨τ2, e2', h3, h4⟩ := H.e101i (fun v1 σ => lp_101_2 f v1 σ) hj h2 h6 h7 (fun c p hc hp => by rw [h1 48 (by omega)]; exact r2 c p hc hp)
    refine ⟨τ2, ⟨h3, h4⟩, ?_⟩
    show lp_101_2 (f + 1) (nI j) ρ = lp_101_2 f (nI (j + 1)) τ2
    have e2' : lp_101_20 (fun v1 σ => lp_101_2 f v1 σ) FU (nI j) 0 τ1 = lp_101_2 f (nI j + 1) τ2 := e2'
    rw [lp_101_2, Hρ.g1, if_neg (nI_ge hj (by omega)), e1', bn_rt, e2', nI_1]
end
/-! the model -/
theorem mx6 {c g : Nat} : (6 : Int32) * nI c + nI g = nI (c * 6 + g) := by
  rw [show (6 : Int32) = nI 6 from rfl, pk_mul, nI_add, Nat.mul_comm]
theorem mx64 {c T : Nat} : (64 : Int32) * nI c + nI T = nI (c * 64 + T) := by
  rw [show (64 : Int32) = nI 64 from rfl, pk_mul, nI_add, Nat.mul_comm]
theorem mx65 {c T : Nat} : ((64 : Int32) * nI c + 64) + nI T = nI ((c + 1) * 64 + T) := by
  rw [show (64 : Int32) = nI 64 from rfl, pk_mul, nI_add, nI_add]
  congr 1
  omega
def PlM (W : Nat → Nat → Int32) (G s c : Nat) (τ : St) : Prop := (τ 12 1 = nI G ∧ τ 12 6 = nI s) ∧ (∀ c g, c < s → g < G → τ 83 (c * 6 + g) = W c g) ∧ ∀ k T, c ≤ k → k ≤ s → T < 64 → τ 82 (k * 64 + T) = DP W G s (s - k) T
section
variable {W : Nat → Nat → Int32} {G s : Nat}
theorem e186g (hG : G ≤ 6) (hs : s ≤ 6) (hW : ∀ c g, c < s → g < G → ∃ d, d ≤ 6000 ∧ W c g = nI d) (ko : Int32 → Int32 → St → MR) {τ : St} {c T : Nat} (hc : c < s) (hT : T < 64) (h : PlM W G s (c + 1) τ) : lp_186_115 ko FU (nI c) (nI T) (DP W G s (s - (c + 1)) T) (nI 0) τ = ko (nI c) (nI (T + 1)) (up τ 82 (c * 64 + T) (DP W G s (s - c) T)) := by
  obtain ⟨⟨h1, h2⟩, h3, h4⟩ := h
  have hb := DP_b hG hs hW (s - (c + 1)) (by omega)
  have hlp := iloop (fun f g a => lp_186_115 ko f (nI c) (nI T) a (nI g) τ) (fun j a => a = fol (mfS (W c) (DP W G s (s - (c + 1))) T) 0 j (DP W G s (s - (c + 1)) T)) G ?_ G 0 FU (DP W G s (s - (c + 1)) T) (by omega) (FU_big (by omega)) rfl
  · obtain ⟨k, a, ea, e⟩ := hlp
    have e : lp_186_115 ko FU (nI c) (nI T) (DP W G s (s - (c + 1)) T) (nI 0) τ = lp_186_115 ko (k + 1) (nI c) (nI T) a (nI G) τ := e
    rw [e, lp_186_115, h1, if_pos (nI_le (Nat.le_refl G) (by omega)), mx64, mb_t (vp_in_nI (show c * 64 + T < 448 by omega) (by omega)), nI_cl (by omega), nI_1, ea, DP_w hc]
    rfl
  · intro f j a hj ea
    refine ⟨mfS (W c) (DP W G s (s - (c + 1))) T j a, ?_, ?_⟩
    · rw [fol_last, Nat.zero_add, ← ea]
    · obtain ⟨d, hd, ed⟩ := mf_b (Wc := W c) (B := DP W G s (s - (c + 1))) (K := 6000 * (s - (c + 1))) hG (by omega) (fun g hg => hW c g hc hg) hb hT j (by omega)
      rw [← ea] at ed
      show lp_186_115 ko (f + 1) (nI c) (nI T) a (nI j) τ = lp_186_115 ko f (nI c) (nI T) _ (nI (j + 1)) τ
      obtain ⟨eso, hso⟩ := so_ok hT (show j < 6 by omega)
      rw [lp_186_115, h1, if_neg (nI_ge hj (by omega)), mx6, eso, mx65, mb_t (vp_in_nI (show c * 6 + j < 36 by omega) (by omega)), mb_t (vp_in_nI (show (c + 1) * 64 + so T j < 448 by omega) (by omega)), nI_cl (by omega), nI_cl (by omega), h3 c j hc hj, h4 (c + 1) (so T j) (Nat.le_refl _) (by omega) hso, nI_1]
      unfold mfS
      by_cases z : fre T j
      · rw [if_neg (fun y => (fre_1 T j).mp y z), if_pos z]
        unfold maxI
        by_cases y : W c j + DP W G s (s - (c + 1)) (so T j) ≤ a
        · rw [if_pos y, if_neg (Int32.not_lt.mpr y)]
        · rw [if_neg y, if_pos (Int32.not_le.mp y)]
      · rw [if_pos ((fre_1 T j).mpr z), if_neg z, if_pos (show (0 : Int32) ≤ a by rw [ed]; exact nI_pos' (by omega))]
theorem e186s (hG : G ≤ 6) (hs : s ≤ 6) (hW : ∀ c g, c < s → g < G → ∃ d, d ≤ 6000 ∧ W c g = nI d) (ko : Int32 → St → MR) {τ : St} {c : Nat} (hc : c < s) (h : PlM W G s (c + 1) τ) : ∃ τ', lp_186_91 ko FU (nI c) (nI 0) τ = ko (nI c + (-1)) τ' ∧ PlM W G s c τ' ∧ Ex1 82 τ τ' := by
  have hlp := iloop (fun f j ρ => lp_186_91 ko f (nI c) (nI j) ρ) (fun j ρ => PlM W G s (c + 1) ρ ∧ Ex1 82 τ ρ ∧ ∀ T, T < j → ρ 82 (c * 64 + T) = DP W G s (s - c) T) 64 ?_ 64 0 FU τ (by omega) (FU_big (by omega)) ⟨h, fun _ _ => rfl, fun T hT => absurd hT (by omega)⟩
  · obtain ⟨k, ρ, ⟨⟨h1, h2, h3⟩, h5, h6⟩, e⟩ := hlp
    refine ⟨ρ, ?_, ⟨h1, h2, ?_⟩, h5⟩
    · have e : lp_186_91 ko FU (nI c) (nI 0) τ = lp_186_91 ko (k + 1) (nI c) (nI 64) ρ := e
      rw [e, lp_186_91, if_pos (show (64 : Int32) ≤ nI 64 by decide)]
    · intro k T hk hks hT
      by_cases z : k = c
      · rw [z]
        exact h6 T hT
      · exact h3 k T (by omega) hks hT
  · intro f j ρ hj ⟨h1, h2, h3⟩
    refine ⟨up ρ 82 (c * 64 + j) (DP W G s (s - c) j), ⟨⟨h1.1, h1.2.1, ?_⟩, h2.up _ _, ?_⟩, ?_⟩
    · intro k T hk hks hT
      show upd (ρ 82) (c * 64 + j) _ (k * 64 + T) = _
      rw [pk_un (by omega)]
      exact h1.2.2 k T hk hks hT
    · intro T hT
      show upd (ρ 82) (c * 64 + j) _ (c * 64 + T) = _
      by_cases z : T = j
      · rw [z, pk_us]
      · rw [pk_un (by omega)]
        exact h3 T (by omega)
    · show lp_186_91 ko (f + 1) (nI c) (nI j) ρ = lp_186_91 ko f (nI c) (nI (j + 1)) _
      have hg := e186g hG hs hW (fun v1 v2 σ => lp_186_91 ko f v1 v2 σ) hc hj h1
      have hg : lp_186_115 (fun v1 v2 σ => lp_186_91 ko f v1 v2 σ) FU (nI c) (nI j) (DP W G s (s - (c + 1)) j) 0 ρ = lp_186_91 ko f (nI c) (nI (j + 1)) (up ρ 82 (c * 64 + j) (DP W G s (s - c) j)) := hg
      rw [lp_186_91, if_neg (show ¬ (64 : Int32) ≤ nI j from nI_ge (b := 64) hj (show 64 < 2 ^ 31 by decide)), mx65, mb_t (vp_in_nI (show (c + 1) * 64 + j < 448 by omega) (by omega)), nI_cl (by omega), h1.2.2 (c + 1) j (Nat.le_refl _) (by omega) hj, hg]
theorem e186c (hG : G ≤ 6) (hs : s ≤ 6) (hW : ∀ c g, c < s → g < G → ∃ d, d ≤ 6000 ∧ W c g = nI d) : ∀ (c f : Nat) (τ : St), c ≤ s → c < f → PlM W G s c τ → ∃ τ', lp_186_85 f (nI c - 1) τ = lp_186_219 FU 0 0 τ' ∧ PlM W G s 0 τ' ∧ Ex1 82 τ τ'
  | 0, f + 1, τ, _, _, h => by
    refine ⟨τ, ?_, h, fun _ _ => rfl⟩
    rw [lp_186_85, if_pos (show nI 0 - 1 < 0 by decide)]
  | c + 1, f + 1, τ, hc, hf, h => by
    obtain ⟨τ1, e1', h1, h2⟩ := e186s hG hs hW (fun v1 σ => lp_186_85 f v1 σ) (show c < s by omega) h
    obtain ⟨τ2, e2', h3, h4⟩ := e186c hG hs hW c f τ1 (by omega) (by omega) h1
    refine ⟨τ2, ?_, h3, h2.tr h4⟩
    have e1' : lp_186_91 (fun v1 σ => lp_186_85 f v1 σ) FU (nI c) 0 τ = lp_186_85 f (nI c + (-1)) τ1 := e1'
    rw [nI_pred, lp_186_85, if_neg (nI_pos (by omega)), e1', ← Int32.sub_eq_add_neg, e2']
  | 0, 0, _, _, h, _ => absurd h (by omega)
  | _ + 1, 0, _, _, h, _ => absurd h (by omega)
/-- the model's least garage -/
theorem e186l (hG : G ≤ 6) (hs : s ≤ 6) (ko : Int32 → Int32 → St → MR) {c T : Nat} (hc : c < s) (hT : T < 64) : ∀ (i f : Nat) (τ : St), i ≤ G → i < f → PlM W G s 0 τ → τ 84 c = lgF W G s c T i (G - i) → ∃ τ', lp_186_241 ko f (nI T) (nI c) (nI i - 1) τ = (if 0 ≤ lg W G s c T then ko (nI T ||| ((1 : Int32) <<< (lg W G s c T &&& 31))) (nI (c + 1)) τ' else ko (nI T) (nI (c + 1)) τ') ∧ Ex1 84 τ τ' ∧ τ' 84 c = lg W G s c T ∧ ∀ k, k ≠ c → τ' 84 k = τ 84 k
  | 0, f + 1, τ, _, _, h, hl => by
    have hl : τ 84 c = lg W G s c T := hl
    refine ⟨τ, ?_, fun _ _ => rfl, hl, fun _ _ => rfl⟩
    rw [lp_186_241, if_pos (show nI 0 - 1 < 0 by decide), mb_t (vp_in_nI (show c < 6 by omega) (by omega)), mb_t (vp_in_nI (show c < 6 by omega) (by omega)), nI_cl (by omega), hl, nI_1, Int32.or_zero]
  | i + 1, f + 1, τ, hi, hf, h, hl => by
    obtain ⟨⟨h1, h2⟩, h3, h4⟩ := id h
    obtain ⟨eso, hso⟩ := so_ok hT (show i < 6 by omega)
    have e : lgF W G s c T i (G - i) = if lgP W G s c T i then nI i else lgF W G s c T (i + 1) (G - (i + 1)) := by
      rw [show G - i = (G - (i + 1)) + 1 by omega]
      rfl
    rw [nI_pred, lp_186_241, if_neg (nI_pos (by omega)), mx6, eso, mx65, mx64, mb_t (vp_in_nI (show c * 6 + i < 36 by omega) (by omega)), mb_t (vp_in_nI (show (c + 1) * 64 + so T i < 448 by omega) (by omega)), mb_t (vp_in_nI (show c * 64 + T < 448 by omega) (by omega)), mb_t (vp_in_nI (show c < 6 by omega) (by omega)), nI_cl (by omega), nI_cl (by omega), nI_cl (by omega), nI_cl (by omega), h3 c i hc (by omega), h4 (c + 1) (so T i) (by omega) (by omega) hso, h4 c T (by omega) (by omega) hT, ← Int32.sub_eq_add_neg]
    have hcl : (nI c).toNatClampNeg = c := nI_cl (by omega)
    by_cases z : lgP W G s c T i
    · rw [if_pos z.1, if_pos z.2]
      rw [if_pos z] at e
      have hup : up τ 84 c (nI i) 84 c = lgF W G s c T i (G - i) := by
        show upd (τ 84) c (nI i) c = _
        rw [pk_us, e]
      obtain ⟨τ', e1', e2', e3', e4'⟩ := e186l hG hs ko hc hT i f (up τ 84 c (nI i)) (by omega) (by omega) h hup
      refine ⟨τ', e1', ?_, e3', ?_⟩
      · intro d hd
        rw [e2' d hd, up_ne τ c (nI i) hd]
      · intro k hk
        rw [e4' k hk]
        show upd (τ 84) c (nI i) k = _
        rw [pk_un hk]
    · rw [if_neg z] at e
      have hl' : τ 84 c = lgF W G s c T i (G - i) := by rw [e]; exact hl
      obtain ⟨τ', e1', e2', e3', e4'⟩ := e186l hG hs ko hc hT i f τ (by omega) (by omega) h hl'
      refine ⟨τ', ?_, e2', e3', e4'⟩
      by_cases z1 : fre T i
      · rw [if_pos z1, if_neg (fun y => z ⟨z1, y⟩)]
        exact e1'
      · rw [if_neg z1]
        exact e1'
  | 0, 0, _, _, h, _, _ => absurd h (by omega)
  | _ + 1, 0, _, _, h, _, _ => absurd h (by omega)
theorem PlM.ex {τ τ' : St} {c : Nat} (h : PlM W G s c τ) (e : Ex1 84 τ τ') : PlM W G s c τ' := by
  obtain ⟨h1, h2, h3⟩ := h
  refine ⟨?_, ?_, ?_⟩
  · rw [e 12 (by omega)]
    exact h1
  · rw [e 83 (by omega)]
    exact h2
  · rw [e 82 (by omega)]
    exact h3
theorem e186p (hG : G ≤ 6) (hs : s ≤ 6) {τ : St} (h : PlM W G s 0 τ) : ∃ τ', lp_186_219 FU 0 0 τ = rt (DP W G s s 0) τ' ∧ Ex1 84 τ τ' ∧ ∀ c, c < s → τ' 84 c = lg W G s c (tk W G s c) := by
  have hlp := iloop (fun f c ρ => lp_186_219 f (nI (tk W G s c)) (nI c) ρ) (fun j ρ => Ex1 84 τ ρ ∧ ∀ c, c < j → ρ 84 c = lg W G s c (tk W G s c)) s ?_ s 0 FU τ (by omega) (FU_big (by omega)) ⟨fun _ _ => rfl, fun c hc => absurd hc (by omega)⟩
  · obtain ⟨k, ρ, ⟨h1, h2⟩, e⟩ := hlp
    have e : lp_186_219 FU 0 0 τ = lp_186_219 (k + 1) (nI (tk W G s s)) (nI s) ρ := e
    have hρ := h.ex h1
    refine ⟨ρ, ?_, h1, h2⟩
    have h0 : ρ 82 (0 : Int32).toNatClampNeg = DP W G s s 0 := by
      have := hρ.2.2 0 0 (by omega) (by omega) (by omega)
      exact this
    rw [e, lp_186_219, hρ.1.2, if_pos (nI_le (Nat.le_refl s) (by omega)), mb_t (show vp_in (0 : Int32) 448 from vp_in_nI (n := 0) (N := 448) (by omega) (by omega)), h0]
  · intro f j ρ hj ⟨h1, h2⟩
    have hρ := h.ex h1
    have hT := tk_lt (W := W) (s := s) hG j
    have hj0 : Ex1 84 ρ (up ρ 84 j (-1)) := fun d hd => up_ne ρ j (-1) hd
    have hl : up ρ 84 j (-1) 84 j = lgF W G s j (tk W G s j) G (G - G) := by
      show upd (ρ 84) j (-1) j = _
      rw [pk_us, show G - G = 0 by omega]
      rfl
    obtain ⟨τ', e1', e2', e3', e4'⟩ := e186l hG hs (fun v1 v2 σ => lp_186_219 f v1 v2 σ) hj hT G FU (up ρ 84 j (-1)) (Nat.le_refl G) (FU_big (by omega)) (hρ.ex hj0) hl
    refine ⟨τ', ⟨(h1.tr hj0).tr e2', ?_⟩, ?_⟩
    · intro c hc
      by_cases z : c = j
      · rw [z]
        exact e3'
      · rw [e4' c z]
        show upd (ρ 84) j (-1) c = _
        rw [pk_un z]
        exact h2 c (by omega)
    · show lp_186_219 (f + 1) (nI (tk W G s j)) (nI j) ρ = lp_186_219 f (nI (tk W G s (j + 1))) (nI (j + 1)) τ'
      have et : tk W G s (j + 1) = if 0 ≤ lg W G s j (tk W G s j) then so (tk W G s j) (lg W G s j (tk W G s j)).toNatClampNeg else tk W G s j := rfl
      rw [lp_186_219, hρ.1.2, if_neg (nI_ge hj (by omega)), mb_t (vp_in_nI (show j < 6 by omega) (by omega)), hρ.1.1, nI_cl (by omega), e1', et]
      rcases lg_cs W G s j (tk W G s j) with y | ⟨k, hk, y⟩
      · rw [y, if_neg (show ¬ (0 : Int32) ≤ -1 by decide), if_neg (show ¬ (0 : Int32) ≤ -1 by decide)]
      · rw [y, if_pos (nI_pos' (by omega)), if_pos (nI_pos' (by omega)), nI_cl (by omega), (so_ok hT (show k < 6 by omega)).1]
end
