/-! pairs: move -/
def lmF (mv sn : Nat → Int32) (t : Int32) (m : Nat) : Int32 := fol (fun k a => if mv k = t then sn k else a) 0 m 0
theorem lmF_s (mv sn : Nat → Int32) (t : Int32) (m : Nat) : lmF mv sn t (m + 1) = if mv m = t then sn m else lmF mv sn t m := by
  unfold lmF
  rw [fol_last, Nat.zero_add]
theorem lm_iff {mv sn : Nat → Int32} {t d : Int32} (hd : 0 ≤ d.toInt) : ∀ m, (∀ i j, i < j → j < m → mv i = mv j → (sn i).toInt ≤ (sn j).toInt) → (lmF mv sn t m ≤ d ↔ ∀ k, k < m → mv k = t → sn k ≤ d)
  | 0, _ => by
    constructor
    · intro _ k hk
      omega
    · intro _
      show (0 : Int32) ≤ d
      rw [Int32.le_iff_toInt_le]
      exact hd
  | m + 1, h => by
    have ih := lm_iff (mv := mv) (sn := sn) (t := t) hd m (fun i j h1 h2 => h i j h1 (by omega))
    rw [lmF_s]
    by_cases e : mv m = t
    · rw [if_pos e]
      constructor
      · intro z k hk hm
        by_cases e2 : k = m
        · rw [e2]; exact z
        · have h3 := h k m (by omega) (by omega) (hm.trans e.symm)
          have z := Int32.le_iff_toInt_le.mp z
          rw [Int32.le_iff_toInt_le]
          omega
      · intro z
        exact z m (by omega) e
    · rw [if_neg e, ih]
      constructor
      · intro z k hk hm
        by_cases e2 : k = m
        · rw [e2] at hm; exact absurd hm e
        · exact z k (by omega) hm
      · intro z k hk hm
        exact z k (by omega) hm
theorem plc_new {hm mv tg sn : Nat → Int32} {m : Nat} {t g d e : Int32} (he : e < d) : plc hm (upd mv m t) (upd tg m g) (upd sn m d) (m + 1) t e = plc hm mv tg sn m t e := by
  unfold plc
  rw [fol_last, Nat.zero_add]
  have h1 : fol (plS (upd mv m t) (upd tg m g) (upd sn m d) t e) 0 m (hm t.toNatClampNeg) = fol (plS mv tg sn t e) 0 m (hm t.toNatClampNeg) := by
    refine fol_congr m 0 _ ?_
    intro k a _ hk
    unfold plS
    rw [pk_un (by omega), pk_un (by omega), pk_un (by omega)]
  rw [h1]
  show (if upd mv m t m = t then (if e < upd sn m d m then _ else _) else _) = _
  rw [pk_us, pk_us, if_pos rfl, if_pos he]
section
variable {σ : St} {v g t m n x s b w : Nat}
theorem Wf.e12 (H : Wf σ v g t m n x s b w) (a : Int32) : sp_12 a σ = rt (lmF (σ 21) (σ 23) a m) σ := by
  unfold sp_12
  have hm := H.m2
  refine cloop (fun f i c => lp_12_4 f a c (nI i) σ) (fun k c => if σ 21 k = a then σ 23 k else c) (fun c => rt c σ) m ?_ ?_ m 0 FU 0 (by omega) (FU_big (by omega))
  · intro f c
    show lp_12_4 (f + 1) a c (nI m) σ = _
    rw [lp_12_4, H.m1, if_pos (nI_le (Nat.le_refl m) (by omega))]
  · intro f i c hi
    show lp_12_4 (f + 1) a c (nI i) σ = lp_12_4 f a _ (nI (i + 1)) σ
    have hv := vp_in_nI (show i < 30 by omega) (show 30 < 2 ^ 31 by omega)
    rw [lp_12_4, H.m1, if_neg (nI_ge hi (by omega)), mb_t hv, mb_t hv, nI_cl (by omega), nI_1]
    by_cases h1 : σ 21 i = a
    · rw [if_pos h1, if_pos h1]
    · rw [if_neg h1, if_neg h1]
/-- the model's search for a later move -/
theorem Wf.e133 (H : Wf σ v g t m n x s b w) (a c d : Int32) : lp_133_32 FU a c d 0 σ = if (∀ k, k < m → σ 21 k = a → σ 23 k ≤ d) then lp_133_32 1 a c d (nI m) σ else rt (-1000001) (fM 1 σ) := by
  have hm := H.m2
  have h := sloop (fun f i => lp_133_32 f a c d (nI i) σ) (fun k => σ 21 k = a ∧ ¬ σ 23 k ≤ d) (rt (-1000001) (fM 1 σ)) (lp_133_32 1 a c d (nI m) σ) m ?_ ?_ m 0 FU (by omega) (FU_big (by omega))
  · show lp_133_32 FU a c d (nI 0) σ = _
    rw [h]
    by_cases z : sr (fun k => decide (σ 21 k = a ∧ ¬ σ 23 k ≤ d)) 0 m = true
    · rw [if_pos z, if_neg]
      intro q
      obtain ⟨k, _, h2, h3⟩ := (sr_iff _ m 0).mp z
      have h3 := of_decide_eq_true h3
      exact h3.2 (q k (by omega) h3.1)
    · rw [if_neg z, if_pos]
      intro k hk e
      apply Decidable.byContradiction
      intro q
      exact z ((sr_iff _ m 0).mpr ⟨k, by omega, by omega, decide_eq_true ⟨e, q⟩⟩)
  · intro f
    show lp_133_32 (f + 1) a c d (nI m) σ = lp_133_32 (0 + 1) a c d (nI m) σ
    rw [lp_133_32, lp_133_32, H.mm, if_pos (nI_le (Nat.le_refl m) (by omega)), if_pos (nI_le (Nat.le_refl m) (by omega))]
  · intro f i hi
    show lp_133_32 (f + 1) a c d (nI i) σ = if σ 21 i = a ∧ ¬ σ 23 i ≤ d then _ else lp_133_32 f a c d (nI (i + 1)) σ
    have hv := vp_in_nI (show i < 30 by omega) (show 30 < 2 ^ 31 by omega)
    rw [lp_133_32, H.mm, if_neg (nI_ge hi (by omega)), mb_t hv, mb_t hv, nI_cl (by omega), nI_1, H.a56, H.a58]
    simp only [it_and, it_not, e125_1, bn_rt]
theorem Wf.lmk (H : Wf σ v g t m n x s b w) {a d : Int32} (hd : rg d 10000) : lmF (σ 21) (σ 23) a m ≤ d ↔ ∀ k, k < m → σ 21 k = a → σ 23 k ≤ d := lm_iff hd.1 m H.dg.2.2
end
theorem e13 {σ : St} {m : Nat} (hm : σ 2 8 = nI m) (h30 : m < 30) (a b c : Int32) : sp_13 a b c σ = rt 0 (up (up (up (up σ 21 m a) 22 m b) 23 m c) 2 8 (nI (m + 1))) := by
  unfold sp_13
  have h := vp_in_nI h30 (show 30 < 2 ^ 31 by omega)
  rw [hm, mb_t h, mb_t h, mb_t h, nI_cl (by omega), nI_1]
theorem pr_4 : Pr_4 Inv := by
  intro a c d σ hI
  obtain ⟨v, g, t, m, n, x, s, b, w, H⟩ := inv_wf hI
  have H1 := H.ft 1
  have hm := H.m2
  by_cases ha : rg a t
  · by_cases hc : rg c g
    · by_cases hd : rg d 10000
      · by_cases hl : lmF (σ 21) (σ 23) a m ≤ d
        · have hk := (H.lmk hd).mp hl
          by_cases h30 : m < 30
          · have h1 : σ 2 8 < 30 := by rw [H.m1]; exact (nI_ltI (by omega) (show 30 < 2 ^ 31 by omega)).mpr h30
            have hde : d - 1 < d := by
              obtain ⟨j, hj, rfl⟩ := rg_of hd (by omega)
              rw [Int32.lt_iff_toInt_lt, show (1 : Int32) = nI 1 from rfl, pk_sub_toInt (by omega) (by omega), nI_toInt (by omega)]
              omega
            have h8 := inv_8 hI
            have h10 := inv_10 hI
            have W : Wf (up (up (up (up (up (up (up (up σ 21 m a) 22 m c) 23 m d) 2 8 (nI (m + 1))) 56 m a) 57 m c) 58 m d) 12 3 (nI (m + 1))) v g t (m + 1) n x s b w := by
              obtain ⟨hS, hA, hT, hY, hC, hD⟩ := id H
              obtain ⟨q0, q1, q2, q3, q4⟩ := hS
              obtain ⟨a1, a2, a3, a4, a5, a6, a7, a8, a9⟩ := hA
              obtain ⟨c1, c2, c3, c4, c5⟩ := hC
              obtain ⟨d1, ⟨d21, d22, d23⟩, d3⟩ := hD
              refine ⟨⟨q0, q1, q2, rfl, q4⟩, ⟨a1, a2, a3, a4, a5, a6, ?_, ?_, ?_⟩, hT, hY, ⟨c1, c2, c3, ⟨rfl, by omega⟩, c5⟩, d1, ⟨d21, ?_, ?_⟩, d3⟩
              · show upd (σ 56) m a = upd (σ 21) m a
                rw [a7]
              · show upd (σ 57) m c = upd (σ 22) m c
                rw [a8]
              · show upd (σ 58) m d = upd (σ 23) m d
                rw [a9]
              · intro i hi
                exact ⟨upd_new (P := fun z => rg z t) (fun i hi => (d22 i hi).1) ha i hi, upd_new (P := fun z => rg z g) (fun i hi => (d22 i hi).2.1) hc i hi, upd_new (P := fun z => rg z 10000) (fun i hi => (d22 i hi).2.2) hd i hi⟩
              · intro i j hij hj hmv
                have hmv : upd (σ 21) m a i = upd (σ 21) m a j := hmv
                show (upd (σ 23) m d i).toInt ≤ (upd (σ 23) m d j).toInt
                rw [pk_un (show i ≠ m by omega)] at hmv ⊢
                by_cases e : j = m
                · rw [e, pk_us] at hmv ⊢
                  exact Int32.le_iff_toInt_le.mp (hk i (by omega) hmv)
                · rw [pk_un e] at hmv ⊢
                  exact d23 i j hij (by omega) hmv
            refine P2_of (r := plc (σ 20) (σ 21) (σ 22) (σ 23) m a (d - 1)) (σ1 := up (up (up (up σ 21 m a) 22 m c) 23 m d) 2 8 (nI (m + 1))) (σ2 := up (up (up (up (up (up (up (up σ 21 m a) 22 m c) 23 m d) 2 8 (nI (m + 1))) 56 m a) 57 m c) 58 m d) 12 3 (nI (m + 1))) ?_ ?_ (wf_inv W h8 h10)
            · unfold sp_11
              have k14 := e14 (σ := up (up (up (up σ 21 m a) 22 m c) 23 m d) 2 8 (nI (m + 1))) (m := m + 1) rfl (by omega) (vp_le ha H.t2) (d - 1)
              simp only [H.q1t, bn_rt, if_bI ha, H.q1g, if_bI hc, e1_d, if_bI hd, H.e12, if_pos hl, if_pos h1, e13 H.m1 h30, k14]
              show rt (plc (σ 20) (upd (σ 21) m a) (upd (σ 22) m c) (upd (σ 23) m d) (m + 1) a (d - 1)) _ = _
              rw [plc_new hde]
            · have k1 : sp_134 a (up (up (up (up σ 21 m a) 22 m c) 23 m d) 2 8 (nI (m + 1))) = rt (bI (rg a t)) (up (up (up (up σ 21 m a) 22 m c) 23 m d) 2 8 (nI (m + 1))) := e134 (σ := up (up (up (up σ 21 m a) 22 m c) 23 m d) 2 8 (nI (m + 1))) H.mt H.t2 a
              have k2 : sp_132 c (up (up (up (up σ 21 m a) 22 m c) 23 m d) 2 8 (nI (m + 1))) = rt (bI (rg c g)) (up (up (up (up σ 21 m a) 22 m c) 23 m d) 2 8 (nI (m + 1))) := e132 (σ := up (up (up (up σ 21 m a) 22 m c) 23 m d) 2 8 (nI (m + 1))) H.mg H.g2 c
              show sp_133 a c d (up (up (up (up σ 21 m a) 22 m c) 23 m d) 2 8 (nI (m + 1))) = _
              unfold sp_133
              simp only [k1, bn_rt, if_bI ha, k2, if_bI hc, e124, if_bI hd]
              generalize hτ : up (up (up (up σ 21 m a) 22 m c) 23 m d) 2 8 (nI (m + 1)) = τ
              have hmm : τ 12 3 = nI m := by rw [← hτ]; exact H.mm
              have h55 : τ 55 = σ 20 := by rw [← hτ]; exact H.a55
              have h56 : τ 56 = σ 21 := by rw [← hτ]; exact H.a56
              have h57 : τ 57 = σ 22 := by rw [← hτ]; exact H.a57
              have h58 : τ 58 = σ 23 := by rw [← hτ]; exact H.a58
              have hsl := sloop (fun f i => lp_133_32 f a c d (nI i) τ) (fun k => False) (rt 0 τ) (lp_133_32 1 a c d (nI m) τ) m ?_ ?_ m 0 FU (by omega) (FU_big (by omega))
              · show lp_133_32 FU a c d (nI 0) τ = _
                rw [hsl, if_neg (by intro z; obtain ⟨k, _, _, h3⟩ := (sr_iff _ m 0).mp z; exact absurd h3 (by decide))]
                show lp_133_32 (0 + 1) a c d (nI m) τ = _
                have hv := vp_in_nI h30 (show 30 < 2 ^ 31 by omega)
                have hne : ¬ nI m = 30 := by
                  show ¬ nI m = nI 30
                  rw [nI_eq (by omega) (by omega)]
                  omega
                rw [lp_133_32, hmm, if_pos (nI_le (Nat.le_refl m) (by omega)), if_neg hne, e135 hmm H.m2 (vp_le ha H.t2), bn_rt, hmm, mb_t hv, mb_t hv, mb_t hv, nI_cl (by omega), nI_1, h55, h56, h57, h58]
              · intro f
                show lp_133_32 (f + 1) a c d (nI m) τ = lp_133_32 (0 + 1) a c d (nI m) τ
                rw [lp_133_32, lp_133_32, hmm, if_pos (nI_le (Nat.le_refl m) (by omega)), if_pos (nI_le (Nat.le_refl m) (by omega))]
              · intro f i hi
                show lp_133_32 (f + 1) a c d (nI i) τ = if False then _ else lp_133_32 f a c d (nI (i + 1)) τ
                have hv := vp_in_nI (show i < 30 by omega) (show 30 < 2 ^ 31 by omega)
                rw [lp_133_32, hmm, if_neg (nI_ge hi (by omega)), mb_t hv, mb_t hv, nI_cl (by omega), nI_1, h56, h58, if_false]
                by_cases e : σ 21 i = a
                · rw [if_pos e, if_pos (hk i hi e)]
                · rw [if_neg e]
          · have h1 : ¬ σ 2 8 < 30 := by rw [H.m1]; exact fun z => h30 ((nI_ltI (by omega) (show 30 < 2 ^ 31 by omega)).mp z)
            refine p2_b4 hI ?_ ?_
            · unfold sp_11
              simp only [H.q1t, bn_rt, if_bI ha, H.q1g, if_bI hc, e1_d, if_bI hd, H.e12, if_pos hl, if_neg h1, e2_4]
            · have W := H.ft 4
              have hk' : ∀ k, k < m → fT 4 σ 21 k = a → fT 4 σ 23 k ≤ d := hk
              have h12 : fT 4 σ 12 3 = nI m := H.mm
              have e30 : nI m = 30 := by
                show nI m = nI 30
                rw [nI_eq (by omega) (by omega)]
                omega
              show sp_133 a c d (fT 4 σ) = _
              unfold sp_133
              simp only [W.qt, bn_rt, if_bI ha, W.qg, if_bI hc, e124, if_bI hd, W.e133]
              rw [if_pos hk']
              show lp_133_32 (0 + 1) a c d (nI m) (fT 4 σ) = _
              rw [lp_133_32, h12, if_pos (nI_le (Nat.le_refl m) (by omega))]
              simp only [if_pos e30, e125_4, bn_rt]
        · have hk' : ¬ ∀ k, k < m → fT 1 σ 21 k = a → fT 1 σ 23 k ≤ d := fun z => hl ((H.lmk hd).mpr z)
          refine p2_b1 hI ?_ ?_
          · unfold sp_11
            simp only [H.q1t, bn_rt, if_bI ha, H.q1g, if_bI hc, e1_d, if_bI hd, H.e12, if_neg hl, e2_1]
          · show sp_133 a c d (fT 1 σ) = _
            unfold sp_133
            simp only [H1.qt, bn_rt, if_bI ha, H1.qg, if_bI hc, e124, if_bI hd, H1.e133]
            rw [if_neg hk']
      · refine p2_b1 hI ?_ ?_
        · unfold sp_11
          simp only [H.q1t, bn_rt, if_bI ha, H.q1g, if_bI hc, e1_d, bI_i0, if_neg hd, e2_1]
        · show sp_133 a c d (fT 1 σ) = _
          unfold sp_133
          simp only [H1.qt, bn_rt, if_bI ha, H1.qg, if_bI hc, e124, bI_i0, if_neg hd, e125_1]
    · refine p2_b1 hI ?_ ?_
      · unfold sp_11
        simp only [H.q1t, bn_rt, if_bI ha, H.q1g, bI_i0, if_neg hc, e2_1]
      · show sp_133 a c d (fT 1 σ) = _
        unfold sp_133
        simp only [H1.qt, bn_rt, if_bI ha, H1.qg, bI_i0, if_neg hc, e125_1]
  · refine p2_b1 hI ?_ ?_
    · unfold sp_11
      simp only [H.q1t, bn_rt, bI_i0, if_neg ha, e2_1]
    · show sp_133 a c d (fT 1 σ) = _
      unfold sp_133
      simp only [H1.qt, bn_rt, bI_i0, if_neg ha, e125_1]
