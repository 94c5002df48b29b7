/-! the plan: what both compute -/
def so (T g : Nat) : Nat := (nI T ||| ((1 : Int32) <<< (nI g &&& 31))).toNatClampNeg
theorem so_ok {T g : Nat} (hT : T < 64) (hg : g < 6) : nI T ||| ((1 : Int32) <<< (nI g &&& 31)) = nI (so T g) ∧ so T g < 64 := by
  obtain ⟨j, hj, e⟩ := rg_of (or_tab hT hg) (by omega)
  unfold so
  rw [e, nI_cl (by omega)]
  exact ⟨rfl, hj⟩
abbrev fre (T g : Nat) : Prop := ((nI T >>> (nI g &&& 31)) &&& 1) = 0
theorem fre_1 (T g : Nat) : ((nI T >>> (nI g &&& 31)) &&& 1) = 1 ↔ ¬ fre T g := by
  obtain ⟨j, hj, e⟩ := pk_andE (nI T >>> (nI g &&& 31)) (m := 1) 1 rfl
  show ((nI T >>> (nI g &&& 31)) &&& 1) = 1 ↔ ¬ ((nI T >>> (nI g &&& 31)) &&& 1) = 0
  rw [e]
  rcases (show j = 0 ∨ j = 1 by omega) with rfl | rfl <;> decide
def mfS (Wc B : Nat → Int32) (T g : Nat) (a : Int32) : Int32 := if fre T g then maxI a (Wc g + B (so T g)) else a
def mf (Wc B : Nat → Int32) (G T : Nat) : Int32 := fol (mfS Wc B T) 0 G (B T)
def DP (W : Nat → Nat → Int32) (G s : Nat) : Nat → Nat → Int32
  | 0, _ => 0
  | k + 1, T => mf (W (s - (k + 1))) (DP W G s k) G T
/-- the least garage for a car -/
abbrev lgP (W : Nat → Nat → Int32) (G s c T i : Nat) : Prop := fre T i ∧ W c i + DP W G s (s - (c + 1)) (so T i) = DP W G s (s - c) T
def lgF (W : Nat → Nat → Int32) (G s c T : Nat) : Nat → Nat → Int32
  | _, 0 => -1
  | i, j + 1 => if lgP W G s c T i then nI i else lgF W G s c T (i + 1) j
def lg (W : Nat → Nat → Int32) (G s c T : Nat) : Int32 := lgF W G s c T 0 G
def tk (W : Nat → Nat → Int32) (G s : Nat) : Nat → Nat
  | 0 => 0
  | c + 1 => if 0 ≤ lg W G s c (tk W G s c) then so (tk W G s c) (lg W G s c (tk W G s c)).toNatClampNeg else tk W G s c
theorem lgF_cs (W : Nat → Nat → Int32) (G s c T : Nat) : ∀ j i, lgF W G s c T i j = -1 ∨ ∃ k, i ≤ k ∧ k < i + j ∧ lgF W G s c T i j = nI k
  | 0, _ => Or.inl rfl
  | j + 1, i => by
    show (if lgP W G s c T i then nI i else lgF W G s c T (i + 1) j) = -1 ∨ ∃ k, i ≤ k ∧ k < i + (j + 1) ∧ (if lgP W G s c T i then nI i else lgF W G s c T (i + 1) j) = nI k
    by_cases h : lgP W G s c T i
    · rw [if_pos h]
      exact Or.inr ⟨i, by omega, by omega, rfl⟩
    · rw [if_neg h]
      rcases lgF_cs W G s c T j (i + 1) with z | ⟨k, h1, h2, z⟩
      · exact Or.inl z
      · exact Or.inr ⟨k, by omega, by omega, z⟩
theorem lg_cs (W : Nat → Nat → Int32) (G s c T : Nat) : lg W G s c T = -1 ∨ ∃ k, k < G ∧ lg W G s c T = nI k := by
  rcases lgF_cs W G s c T G 0 with z | ⟨k, h1, h2, z⟩
  · exact Or.inl z
  · exact Or.inr ⟨k, by omega, z⟩
theorem tk_lt {W : Nat → Nat → Int32} {G s : Nat} (hG : G ≤ 6) : ∀ c, tk W G s c < 64
  | 0 => by show 0 < 64; omega
  | c + 1 => by
    show (if 0 ≤ lg W G s c (tk W G s c) then so (tk W G s c) (lg W G s c (tk W G s c)).toNatClampNeg else tk W G s c) < 64
    have ih := tk_lt (W := W) (s := s) hG c
    rcases lg_cs W G s c (tk W G s c) with z | ⟨k, hk, z⟩
    · rw [z, if_neg (by decide)]
      exact ih
    · rw [z, if_pos (nI_pos' (by omega)), nI_cl (by omega)]
      exact (so_ok ih (by omega)).2
theorem DP_w {W : Nat → Nat → Int32} {G s c : Nat} (hc : c < s) (T : Nat) : DP W G s (s - c) T = mf (W c) (DP W G s (s - (c + 1))) G T := by
  have e : s - c = (s - (c + 1)) + 1 := by omega
  rw [e]
  show mf (W (s - (s - (c + 1) + 1))) (DP W G s (s - (c + 1))) G T = _
  rw [show s - (s - (c + 1) + 1) = c by omega]
/-- bounds -/
theorem mf_b {Wc B : Nat → Int32} {G K : Nat} (hG : G ≤ 6) (hK : K ≤ 100000) (hW : ∀ g, g < G → ∃ d, d ≤ 6000 ∧ Wc g = nI d) (hB : ∀ T, T < 64 → ∃ d, d ≤ K ∧ B T = nI d) {T : Nat} (hT : T < 64) : ∀ j, j ≤ G → ∃ d, d ≤ K + 6000 ∧ fol (mfS Wc B T) 0 j (B T) = nI d
  | 0, _ => by
    obtain ⟨d, hd, e⟩ := hB T hT
    exact ⟨d, by omega, e⟩
  | j + 1, hj => by
    obtain ⟨d, hd, e⟩ := mf_b hG hK hW hB hT j (by omega)
    obtain ⟨p, hp, ep⟩ := hW j (by omega)
    obtain ⟨q, hq, eq⟩ := hB (so T j) (so_ok hT (by omega)).2
    rw [fol_last, Nat.zero_add, e]
    show ∃ d', d' ≤ K + 6000 ∧ (if fre T j then maxI (nI d) (Wc j + B (so T j)) else nI d) = nI d'
    rw [ep, eq, nI_add]
    unfold maxI
    split
    · split
      · exact ⟨p + q, by omega, rfl⟩
      · exact ⟨d, hd, rfl⟩
    · exact ⟨d, hd, rfl⟩
theorem DP_b {W : Nat → Nat → Int32} {G s : Nat} (hG : G ≤ 6) (hs : s ≤ 6) (hW : ∀ c g, c < s → g < G → ∃ d, d ≤ 6000 ∧ W c g = nI d) : ∀ k, k ≤ s → ∀ T, T < 64 → ∃ d, d ≤ 6000 * k ∧ DP W G s k T = nI d
  | 0, _, _, _ => ⟨0, by omega, rfl⟩
  | k + 1, hk, T, hT => by
    have ih := DP_b hG hs hW k (by omega)
    obtain ⟨d, hd, e⟩ := mf_b (Wc := W (s - (k + 1))) (B := DP W G s k) (K := 6000 * k) hG (by omega) (fun g hg => hW _ g (by omega) hg) ih hT G (Nat.le_refl G)
    exact ⟨d, by omega, e⟩
/-! the class's plan -/
theorem e104 {τ : St} (T g : Nat) : sp_104 (nI T) (nI g) τ = rt (bI (fre T g)) τ := by
  unfold sp_104
  simp only [mb_T, true_or, or_true, rt_bI]
theorem ix6 {c g : Nat} : nI c * 6 + nI g = nI (c * 6 + g) := by
  rw [show (6 : Int32) = nI 6 from rfl, pk_mul, nI_add]
theorem ix64 {c T : Nat} : nI c * 64 + nI T = nI (c * 64 + T) := by
  rw [show (64 : Int32) = nI 64 from rfl, pk_mul, nI_add]
theorem e105 {τ : St} {c g T : Nat} (hc : c < 6) (hg : g < 6) (hT : T < 64) : sp_105 (nI c) (nI g) (nI T) τ = rt (τ 48 (c * 6 + g) + τ 49 ((c + 1) * 64 + so T g)) τ := by
  obtain ⟨e, h⟩ := so_ok hT hg
  unfold sp_105
  rw [nI_1, e, ix6, ix64, mb_t (vp_in_nI (by omega) (by omega)), mb_t (vp_in_nI (by omega) (by omega)), nI_cl (by omega), nI_cl (by omega)]
/-- what the class's plan holds: counts, worths, rows from c on -/
def PlC (W : Nat → Nat → Int32) (G s c : Nat) (τ : St) : Prop := (τ 2 2 = nI G ∧ τ 9 3 = nI s) ∧ (∀ c g, c < s → g < G → τ 48 (c * 6 + g) = W c g) ∧ (∀ k T, c ≤ k → k ≤ s → T < 64 → τ 49 (k * 64 + T) = DP W G s (s - k) T) ∧ ∀ q, 64 * s ≤ q → τ 49 q = 0
section
variable {W : Nat → Nat → Int32} {G s : Nat}
theorem e103 (hG : G ≤ 6) (hs : s ≤ 6) {τ : St} {c T : Nat} (hc : c < s) (hT : T < 64) (h : PlC W G s (c + 1) τ) : sp_103 (nI c) (nI T) τ = rt (DP W G s (s - c) T) τ := by
  obtain ⟨⟨h1, h2⟩, h3, h4, h5⟩ := h
  unfold sp_103
  rw [nI_1, ix64, mb_t (vp_in_nI (show (c + 1) * 64 + T < 448 by omega) (by omega)), nI_cl (by omega), h4 (c + 1) T (Nat.le_refl _) (by omega) hT, DP_w hc]
  unfold mf
  refine cloop (fun f g a => lp_103_17 f (nI c) (nI T) a (nI g) τ) (mfS (W c) (DP W G s (s - (c + 1))) T) (fun a => rt a τ) G ?_ ?_ G 0 FU _ (by omega) (FU_big (by omega))
  · intro f a
    show lp_103_17 (f + 1) (nI c) (nI T) a (nI G) τ = _
    rw [lp_103_17, h1, if_pos (nI_le (Nat.le_refl G) (by omega))]
  · intro f g a hg
    show lp_103_17 (f + 1) (nI c) (nI T) a (nI g) τ = lp_103_17 f (nI c) (nI T) (mfS (W c) (DP W G s (s - (c + 1))) T g a) (nI (g + 1)) τ
    rw [lp_103_17, h1, if_neg (nI_ge hg (by omega)), e104, bn_rt, bI_i0, e105 (by omega) (by omega) hT, bn_rt, h3 c g hc hg, h4 (c + 1) (so T g) (Nat.le_refl _) (by omega) (so_ok hT (by omega)).2, nI_1]
    unfold mfS
    by_cases z : fre T g
    · rw [if_pos z, if_pos z]
    · rw [if_neg z, if_neg z]
theorem e102i (hG : G ≤ 6) (hs : s ≤ 6) (ko : Int32 → St → MR) {τ : St} {c : Nat} (hc : c < s) (h : PlC W G s (c + 1) τ) : ∃ τ', lp_102_16 ko FU (nI c) (nI 0) τ = ko (nI c + (-1)) τ' ∧ PlC W G s c τ' ∧ Ex1 49 τ τ' := by
  have hlp := iloop (fun f j ρ => lp_102_16 ko f (nI c) (nI j) ρ) (fun j ρ => PlC W G s (c + 1) ρ ∧ Ex1 49 τ ρ ∧ ∀ T, T < j → ρ 49 (c * 64 + T) = DP W G s (s - c) T) 64 ?_ 64 0 FU τ (by omega) (FU_big (by omega)) ⟨h, fun _ _ => rfl, fun T hT => absurd hT (by omega)⟩
  · obtain ⟨k, ρ, ⟨⟨h1, h2, h3, h4⟩, h5, h6⟩, e⟩ := hlp
    refine ⟨ρ, ?_, ⟨h1, h2, ?_, h4⟩, h5⟩
    · have e : lp_102_16 ko FU (nI c) (nI 0) τ = lp_102_16 ko (k + 1) (nI c) (nI 64) ρ := e
      rw [e, lp_102_16, if_pos (show (64 : Int32) ≤ nI 64 by decide)]
    · intro k T hk hks hT
      by_cases z : k = c
      · rw [z]
        exact h6 T hT
      · exact h3 k T (by omega) hks hT
  · intro f j ρ hj ⟨h1, h2, h3⟩
    refine ⟨up ρ 49 (c * 64 + j) (DP W G s (s - c) j), ⟨⟨h1.1, h1.2.1, ?_, ?_⟩, h2.up _ _, ?_⟩, ?_⟩
    · intro k T hk hks hT
      show upd (ρ 49) (c * 64 + j) _ (k * 64 + T) = _
      rw [pk_un (by omega)]
      exact h1.2.2.1 k T hk hks hT
    · intro q hq
      show upd (ρ 49) (c * 64 + j) _ q = 0
      rw [pk_un (by omega)]
      exact h1.2.2.2 q hq
    · intro T hT
      show upd (ρ 49) (c * 64 + j) _ (c * 64 + T) = _
      by_cases z : T = j
      · rw [z, pk_us]
      · rw [pk_un (by omega)]
        exact h3 T (by omega)
    · show lp_102_16 ko (f + 1) (nI c) (nI j) ρ = lp_102_16 ko f (nI c) (nI (j + 1)) _
      rw [lp_102_16, if_neg (show ¬ (64 : Int32) ≤ nI j from nI_ge (b := 64) hj (show 64 < 2 ^ 31 by decide)), e103 hG hs hc hj h1, bn_rt, ix64, mb_t (vp_in_nI (show c * 64 + j < 448 by omega) (by omega)), nI_cl (by omega), nI_1]
theorem e102o (hG : G ≤ 6) (hs : s ≤ 6) : ∀ (c f : Nat) (τ : St), c ≤ s → c < f → PlC W G s c τ → ∃ τ', lp_102_10 f (nI c - 1) τ = rt 0 τ' ∧ PlC W G s 0 τ' ∧ Ex1 49 τ τ'
  | 0, f + 1, τ, _, _, h => by
    refine ⟨τ, ?_, h, fun _ _ => rfl⟩
    rw [lp_102_10, if_pos (show nI 0 - 1 < 0 by decide)]
  | c + 1, f + 1, τ, hc, hf, h => by
    obtain ⟨τ1, e1', h1, h2⟩ := e102i hG hs (fun v1 σ => lp_102_10 f v1 σ) (show c < s by omega) h
    obtain ⟨τ2, e2', h3, h4⟩ := e102o hG hs c f τ1 (by omega) (by omega) h1
    refine ⟨τ2, ?_, h3, h2.tr h4⟩
    rw [nI_pred, lp_102_10, if_neg (nI_pos (by omega))]
    have e1' : lp_102_16 (fun v1 σ => lp_102_10 f v1 σ) FU (nI c) 0 τ = lp_102_10 f (nI c + (-1)) τ1 := e1'
    rw [e1', ← Int32.sub_eq_add_neg, e2']
  | 0, 0, _, _, h, _ => absurd h (by omega)
  | _ + 1, 0, _, _, h, _ => absurd h (by omega)
theorem e109 (hG : G ≤ 6) (hs : s ≤ 6) {τ : St} {c T : Nat} (hc : c < s) (hT : T < 64) (h : PlC W G s 0 τ) : sp_109 (nI c) (nI T) τ = rt (lg W G s c T) τ := by
  obtain ⟨⟨h1, h2⟩, h3, h4, h5⟩ := h
  have key : ∀ (j i f : Nat), i + j = G → j < f → lp_109_2 f (nI c) (nI T) (nI i) τ = rt (lgF W G s c T i j) τ := by
    intro j
    induction j with
    | zero =>
      intro i f hi hf
      cases f with
      | zero => omega
      | succ f =>
        rw [lp_109_2, h1, if_pos (nI_le (show G ≤ i by omega) (by omega))]
        rfl
    | succ j ih =>
      intro i f hi hf
      cases f with
      | zero => omega
      | succ f =>
        show _ = rt (if lgP W G s c T i then nI i else lgF W G s c T (i + 1) j) τ
        rw [lp_109_2, h1, if_neg (nI_ge (show i < G by omega) (by omega)), e104, bn_rt, bI_i0, e105 (by omega) (by omega) hT, bn_rt, h3 c i hc (by omega), h4 (c + 1) (so T i) (by omega) (by omega) (so_ok hT (by omega)).2, ix64, mb_t (vp_in_nI (show c * 64 + T < 448 by omega) (by omega)), nI_cl (by omega), h4 c T (by omega) (by omega) hT, nI_1, ih (i + 1) f (by omega) (by omega)]
        by_cases z1 : fre T i
        · rw [if_pos z1]
          by_cases z2 : W c i + DP W G s (s - (c + 1)) (so T i) = DP W G s (s - c) T
          · rw [if_pos z2, if_pos ⟨z1, z2⟩]
          · rw [if_neg z2, if_neg (fun z => z2 z.2)]
        · rw [if_neg z1, if_neg (fun z => z1 z.1)]
  unfold sp_109
  exact key G 0 FU (by omega) (FU_big (by omega))
theorem e108 (hG : G ≤ 6) (hs : s ≤ 6) {τ : St} {c : Nat} (hc : c < s) (h : PlC W G s 0 τ) : sp_108 (nI c) τ = rt (lg W G s c (tk W G s c)) τ := by
  have key : ∀ (j i f : Nat) (z : Int32), i + j = c + 1 → j < f → (j = 0 → z = lg W G s c (tk W G s c)) → lp_108_7 f (nI c) (nI (tk W G s i)) z (nI i) τ = rt (lg W G s c (tk W G s c)) τ := by
    intro j
    induction j with
    | zero =>
      intro i f z hi hf hz
      cases f with
      | zero => omega
      | succ f => rw [lp_108_7, if_pos (nI_lt (show c < i by omega) (by omega)), hz rfl]
    | succ j ih =>
      intro i f z hi hf _
      cases f with
      | zero => omega
      | succ f =>
        have hT := tk_lt (W := W) (s := s) hG i
        rw [lp_108_7, if_neg (nI_nlt (show i ≤ c by omega) (by omega)), e109 hG hs (show i < s by omega) hT h, bn_rt, nI_1]
        have et : tk W G s (i + 1) = if 0 ≤ lg W G s i (tk W G s i) then so (tk W G s i) (lg W G s i (tk W G s i)).toNatClampNeg else tk W G s i := rfl
        have hz' : j = 0 → lg W G s i (tk W G s i) = lg W G s c (tk W G s c) := by
          intro hj
          rw [show i = c by omega]
        have ih' := ih (i + 1) f (lg W G s i (tk W G s i)) (by omega) (by omega) hz'
        rw [et] at ih'
        rcases lg_cs W G s i (tk W G s i) with y | ⟨k, hk, y⟩
        · rw [y] at ih' ⊢
          rw [if_neg (show ¬ (0 : Int32) ≤ -1 by decide)] at ih' ⊢
          exact ih'
        · rw [y] at ih' ⊢
          rw [if_pos (nI_pos' (by omega)), nI_cl (by omega), ← (so_ok hT (show k < 6 by omega)).1] at ih'
          rw [if_pos (nI_pos' (by omega))]
          exact ih'
  unfold sp_108
  exact key (c + 1) 0 FU (-1) (by omega) (FU_big (by omega)) (fun z => absurd z (by omega))
end
