/-! pairs: says, of, visit -/
theorem e1_11 (x : Int32) (σ : St) : sp_1 x 11 σ = rt (bI (rg x 11)) σ := e1 x (n := 11) (by omega) σ
theorem n10 : ¬ (1 : Int32) = 0 := by decide
theorem n01 : ¬ (0 : Int32) = 1 := by decide
section
variable {σ : St} {v g t m n x s b w : Nat}
theorem Wf.of0 (H : Wf σ v g t m n x s b w) {i : Nat} (hi : i < n) : sp_23 (nI i) 0 σ = rt (σ 24 i) σ := by
  have hc : rg (0 : Int32) 11 := by decide
  have ha : rg (nI i) n := rg_nI hi (by have := H.n2; omega)
  unfold sp_23 sp_25
  simp only [H.q1n, bn_rt, if_bI ha, e1_11, if_bI hc, eq_false (show ¬ (0 : Int32) = 1 by decide), eq_false (show ¬ (0 : Int32) = 2 by decide), eq_false (show ¬ (0 : Int32) = 3 by decide), eq_false (show ¬ (0 : Int32) = 4 by decide), eq_false (show ¬ (0 : Int32) = 5 by decide), eq_false (show ¬ (0 : Int32) = 6 by decide), eq_false (show ¬ (0 : Int32) = 7 by decide), eq_false (show ¬ (0 : Int32) = 8 by decide), eq_false (show ¬ (0 : Int32) = 9 by decide), eq_false (show ¬ (0 : Int32) = 10 by decide), if_true, if_false, mb_t (H.i80 hi), H.icl hi]
theorem Wf.om0 (H : Wf σ v g t m n x s b w) {i : Nat} (hi : i < n) : sp_139 (nI i) 0 σ = rt (σ 24 i) σ := by
  have ha : rg (nI i) n := rg_nI hi (by have := H.n2; omega)
  unfold sp_139
  simp only [H.qn, bn_rt, if_bI ha, eq_false (show ¬ (0 : Int32) = 1 by decide), eq_false (show ¬ (0 : Int32) = 2 by decide), eq_false (show ¬ (0 : Int32) = 3 by decide), eq_false (show ¬ (0 : Int32) = 4 by decide), eq_false (show ¬ (0 : Int32) = 5 by decide), eq_false (show ¬ (0 : Int32) = 6 by decide), eq_false (show ¬ (0 : Int32) = 7 by decide), eq_false (show ¬ (0 : Int32) = 8 by decide), eq_false (show ¬ (0 : Int32) = 9 by decide), eq_false (show ¬ (0 : Int32) = 10 by decide), if_true, if_false, mb_t (H.i80 hi), H.icl hi, H.a59]
theorem Wf.of1 (H : Wf σ v g t m n x s b w) {i : Nat} (hi : i < n) : sp_23 (nI i) 1 σ = rt (σ 25 i) σ := by
  have hc : rg (1 : Int32) 11 := by decide
  have ha : rg (nI i) n := rg_nI hi (by have := H.n2; omega)
  unfold sp_23 sp_25
  simp only [H.q1n, bn_rt, if_bI ha, e1_11, if_bI hc, eq_false (show ¬ (1 : Int32) = 0 by decide), eq_false (show ¬ (1 : Int32) = 2 by decide), eq_false (show ¬ (1 : Int32) = 3 by decide), eq_false (show ¬ (1 : Int32) = 4 by decide), eq_false (show ¬ (1 : Int32) = 5 by decide), eq_false (show ¬ (1 : Int32) = 6 by decide), eq_false (show ¬ (1 : Int32) = 7 by decide), eq_false (show ¬ (1 : Int32) = 8 by decide), eq_false (show ¬ (1 : Int32) = 9 by decide), eq_false (show ¬ (1 : Int32) = 10 by decide), if_true, if_false, mb_t (H.i80 hi), H.icl hi]
theorem Wf.om1 (H : Wf σ v g t m n x s b w) {i : Nat} (hi : i < n) : sp_139 (nI i) 1 σ = rt (σ 25 i) σ := by
  have ha : rg (nI i) n := rg_nI hi (by have := H.n2; omega)
  unfold sp_139
  simp only [H.qn, bn_rt, if_bI ha, eq_false (show ¬ (1 : Int32) = 0 by decide), eq_false (show ¬ (1 : Int32) = 2 by decide), eq_false (show ¬ (1 : Int32) = 3 by decide), eq_false (show ¬ (1 : Int32) = 4 by decide), eq_false (show ¬ (1 : Int32) = 5 by decide), eq_false (show ¬ (1 : Int32) = 6 by decide), eq_false (show ¬ (1 : Int32) = 7 by decide), eq_false (show ¬ (1 : Int32) = 8 by decide), eq_false (show ¬ (1 : Int32) = 9 by decide), eq_false (show ¬ (1 : Int32) = 10 by decide), if_true, if_false, mb_t (H.i80 hi), H.icl hi, H.a60]
theorem Wf.of2 (H : Wf σ v g t m n x s b w) {i : Nat} (hi : i < n) : sp_23 (nI i) 2 σ = rt (σ 26 i) σ := by
  have hc : rg (2 : Int32) 11 := by decide
  have ha : rg (nI i) n := rg_nI hi (by have := H.n2; omega)
  unfold sp_23 sp_25
  simp only [H.q1n, bn_rt, if_bI ha, e1_11, if_bI hc, eq_false (show ¬ (2 : Int32) = 0 by decide), eq_false (show ¬ (2 : Int32) = 1 by decide), eq_false (show ¬ (2 : Int32) = 3 by decide), eq_false (show ¬ (2 : Int32) = 4 by decide), eq_false (show ¬ (2 : Int32) = 5 by decide), eq_false (show ¬ (2 : Int32) = 6 by decide), eq_false (show ¬ (2 : Int32) = 7 by decide), eq_false (show ¬ (2 : Int32) = 8 by decide), eq_false (show ¬ (2 : Int32) = 9 by decide), eq_false (show ¬ (2 : Int32) = 10 by decide), if_true, if_false, mb_t (H.i80 hi), H.icl hi]
theorem Wf.om2 (H : Wf σ v g t m n x s b w) {i : Nat} (hi : i < n) : sp_139 (nI i) 2 σ = rt (σ 26 i) σ := by
  have ha : rg (nI i) n := rg_nI hi (by have := H.n2; omega)
  unfold sp_139
  simp only [H.qn, bn_rt, if_bI ha, eq_false (show ¬ (2 : Int32) = 0 by decide), eq_false (show ¬ (2 : Int32) = 1 by decide), eq_false (show ¬ (2 : Int32) = 3 by decide), eq_false (show ¬ (2 : Int32) = 4 by decide), eq_false (show ¬ (2 : Int32) = 5 by decide), eq_false (show ¬ (2 : Int32) = 6 by decide), eq_false (show ¬ (2 : Int32) = 7 by decide), eq_false (show ¬ (2 : Int32) = 8 by decide), eq_false (show ¬ (2 : Int32) = 9 by decide), eq_false (show ¬ (2 : Int32) = 10 by decide), if_true, if_false, mb_t (H.i80 hi), H.icl hi, H.a61]
theorem Wf.of3 (H : Wf σ v g t m n x s b w) {i : Nat} (hi : i < n) : sp_23 (nI i) 3 σ = rt (σ 27 i) σ := by
  have hc : rg (3 : Int32) 11 := by decide
  have ha : rg (nI i) n := rg_nI hi (by have := H.n2; omega)
  unfold sp_23 sp_25
  simp only [H.q1n, bn_rt, if_bI ha, e1_11, if_bI hc, eq_false (show ¬ (3 : Int32) = 0 by decide), eq_false (show ¬ (3 : Int32) = 1 by decide), eq_false (show ¬ (3 : Int32) = 2 by decide), eq_false (show ¬ (3 : Int32) = 4 by decide), eq_false (show ¬ (3 : Int32) = 5 by decide), eq_false (show ¬ (3 : Int32) = 6 by decide), eq_false (show ¬ (3 : Int32) = 7 by decide), eq_false (show ¬ (3 : Int32) = 8 by decide), eq_false (show ¬ (3 : Int32) = 9 by decide), eq_false (show ¬ (3 : Int32) = 10 by decide), if_true, if_false, mb_t (H.i80 hi), H.icl hi]
theorem Wf.om3 (H : Wf σ v g t m n x s b w) {i : Nat} (hi : i < n) : sp_139 (nI i) 3 σ = rt (σ 27 i) σ := by
  have ha : rg (nI i) n := rg_nI hi (by have := H.n2; omega)
  unfold sp_139
  simp only [H.qn, bn_rt, if_bI ha, eq_false (show ¬ (3 : Int32) = 0 by decide), eq_false (show ¬ (3 : Int32) = 1 by decide), eq_false (show ¬ (3 : Int32) = 2 by decide), eq_false (show ¬ (3 : Int32) = 4 by decide), eq_false (show ¬ (3 : Int32) = 5 by decide), eq_false (show ¬ (3 : Int32) = 6 by decide), eq_false (show ¬ (3 : Int32) = 7 by decide), eq_false (show ¬ (3 : Int32) = 8 by decide), eq_false (show ¬ (3 : Int32) = 9 by decide), eq_false (show ¬ (3 : Int32) = 10 by decide), if_true, if_false, mb_t (H.i80 hi), H.icl hi, H.a62]
theorem Wf.of4 (H : Wf σ v g t m n x s b w) {i : Nat} (hi : i < n) : sp_23 (nI i) 4 σ = rt (σ 28 i) σ := by
  have hc : rg (4 : Int32) 11 := by decide
  have ha : rg (nI i) n := rg_nI hi (by have := H.n2; omega)
  unfold sp_23 sp_25
  simp only [H.q1n, bn_rt, if_bI ha, e1_11, if_bI hc, eq_false (show ¬ (4 : Int32) = 0 by decide), eq_false (show ¬ (4 : Int32) = 1 by decide), eq_false (show ¬ (4 : Int32) = 2 by decide), eq_false (show ¬ (4 : Int32) = 3 by decide), eq_false (show ¬ (4 : Int32) = 5 by decide), eq_false (show ¬ (4 : Int32) = 6 by decide), eq_false (show ¬ (4 : Int32) = 7 by decide), eq_false (show ¬ (4 : Int32) = 8 by decide), eq_false (show ¬ (4 : Int32) = 9 by decide), eq_false (show ¬ (4 : Int32) = 10 by decide), if_true, if_false, mb_t (H.i80 hi), H.icl hi]
theorem Wf.om4 (H : Wf σ v g t m n x s b w) {i : Nat} (hi : i < n) : sp_139 (nI i) 4 σ = rt (σ 28 i) σ := by
  have ha : rg (nI i) n := rg_nI hi (by have := H.n2; omega)
  unfold sp_139
  simp only [H.qn, bn_rt, if_bI ha, eq_false (show ¬ (4 : Int32) = 0 by decide), eq_false (show ¬ (4 : Int32) = 1 by decide), eq_false (show ¬ (4 : Int32) = 2 by decide), eq_false (show ¬ (4 : Int32) = 3 by decide), eq_false (show ¬ (4 : Int32) = 5 by decide), eq_false (show ¬ (4 : Int32) = 6 by decide), eq_false (show ¬ (4 : Int32) = 7 by decide), eq_false (show ¬ (4 : Int32) = 8 by decide), eq_false (show ¬ (4 : Int32) = 9 by decide), eq_false (show ¬ (4 : Int32) = 10 by decide), if_true, if_false, mb_t (H.i80 hi), H.icl hi, H.a63]
theorem Wf.of5 (H : Wf σ v g t m n x s b w) {i : Nat} (hi : i < n) : sp_23 (nI i) 5 σ = rt (σ 29 i) σ := by
  have hc : rg (5 : Int32) 11 := by decide
  have ha : rg (nI i) n := rg_nI hi (by have := H.n2; omega)
  unfold sp_23 sp_25
  simp only [H.q1n, bn_rt, if_bI ha, e1_11, if_bI hc, eq_false (show ¬ (5 : Int32) = 0 by decide), eq_false (show ¬ (5 : Int32) = 1 by decide), eq_false (show ¬ (5 : Int32) = 2 by decide), eq_false (show ¬ (5 : Int32) = 3 by decide), eq_false (show ¬ (5 : Int32) = 4 by decide), eq_false (show ¬ (5 : Int32) = 6 by decide), eq_false (show ¬ (5 : Int32) = 7 by decide), eq_false (show ¬ (5 : Int32) = 8 by decide), eq_false (show ¬ (5 : Int32) = 9 by decide), eq_false (show ¬ (5 : Int32) = 10 by decide), if_true, if_false, mb_t (H.i80 hi), H.icl hi]
theorem Wf.om5 (H : Wf σ v g t m n x s b w) {i : Nat} (hi : i < n) : sp_139 (nI i) 5 σ = rt (σ 29 i) σ := by
  have ha : rg (nI i) n := rg_nI hi (by have := H.n2; omega)
  unfold sp_139
  simp only [H.qn, bn_rt, if_bI ha, eq_false (show ¬ (5 : Int32) = 0 by decide), eq_false (show ¬ (5 : Int32) = 1 by decide), eq_false (show ¬ (5 : Int32) = 2 by decide), eq_false (show ¬ (5 : Int32) = 3 by decide), eq_false (show ¬ (5 : Int32) = 4 by decide), eq_false (show ¬ (5 : Int32) = 6 by decide), eq_false (show ¬ (5 : Int32) = 7 by decide), eq_false (show ¬ (5 : Int32) = 8 by decide), eq_false (show ¬ (5 : Int32) = 9 by decide), eq_false (show ¬ (5 : Int32) = 10 by decide), if_true, if_false, mb_t (H.i80 hi), H.icl hi, H.a64]
theorem Wf.of6 (H : Wf σ v g t m n x s b w) {i : Nat} (hi : i < n) : sp_23 (nI i) 6 σ = rt (σ 30 i) σ := by
  have hc : rg (6 : Int32) 11 := by decide
  have ha : rg (nI i) n := rg_nI hi (by have := H.n2; omega)
  unfold sp_23 sp_25
  simp only [H.q1n, bn_rt, if_bI ha, e1_11, if_bI hc, eq_false (show ¬ (6 : Int32) = 0 by decide), eq_false (show ¬ (6 : Int32) = 1 by decide), eq_false (show ¬ (6 : Int32) = 2 by decide), eq_false (show ¬ (6 : Int32) = 3 by decide), eq_false (show ¬ (6 : Int32) = 4 by decide), eq_false (show ¬ (6 : Int32) = 5 by decide), eq_false (show ¬ (6 : Int32) = 7 by decide), eq_false (show ¬ (6 : Int32) = 8 by decide), eq_false (show ¬ (6 : Int32) = 9 by decide), eq_false (show ¬ (6 : Int32) = 10 by decide), if_true, if_false, mb_t (H.i80 hi), H.icl hi]
theorem Wf.om6 (H : Wf σ v g t m n x s b w) {i : Nat} (hi : i < n) : sp_139 (nI i) 6 σ = rt (σ 30 i) σ := by
  have ha : rg (nI i) n := rg_nI hi (by have := H.n2; omega)
  unfold sp_139
  simp only [H.qn, bn_rt, if_bI ha, eq_false (show ¬ (6 : Int32) = 0 by decide), eq_false (show ¬ (6 : Int32) = 1 by decide), eq_false (show ¬ (6 : Int32) = 2 by decide), eq_false (show ¬ (6 : Int32) = 3 by decide), eq_false (show ¬ (6 : Int32) = 4 by decide), eq_false (show ¬ (6 : Int32) = 5 by decide), eq_false (show ¬ (6 : Int32) = 7 by decide), eq_false (show ¬ (6 : Int32) = 8 by decide), eq_false (show ¬ (6 : Int32) = 9 by decide), eq_false (show ¬ (6 : Int32) = 10 by decide), if_true, if_false, mb_t (H.i80 hi), H.icl hi, H.a65]
theorem Wf.of7 (H : Wf σ v g t m n x s b w) {i : Nat} (hi : i < n) : sp_23 (nI i) 7 σ = rt (σ 31 i) σ := by
  have hc : rg (7 : Int32) 11 := by decide
  have ha : rg (nI i) n := rg_nI hi (by have := H.n2; omega)
  unfold sp_23 sp_25
  simp only [H.q1n, bn_rt, if_bI ha, e1_11, if_bI hc, eq_false (show ¬ (7 : Int32) = 0 by decide), eq_false (show ¬ (7 : Int32) = 1 by decide), eq_false (show ¬ (7 : Int32) = 2 by decide), eq_false (show ¬ (7 : Int32) = 3 by decide), eq_false (show ¬ (7 : Int32) = 4 by decide), eq_false (show ¬ (7 : Int32) = 5 by decide), eq_false (show ¬ (7 : Int32) = 6 by decide), eq_false (show ¬ (7 : Int32) = 8 by decide), eq_false (show ¬ (7 : Int32) = 9 by decide), eq_false (show ¬ (7 : Int32) = 10 by decide), if_true, if_false, mb_t (H.i80 hi), H.icl hi]
theorem Wf.om7 (H : Wf σ v g t m n x s b w) {i : Nat} (hi : i < n) : sp_139 (nI i) 7 σ = rt (σ 31 i) σ := by
  have ha : rg (nI i) n := rg_nI hi (by have := H.n2; omega)
  unfold sp_139
  simp only [H.qn, bn_rt, if_bI ha, eq_false (show ¬ (7 : Int32) = 0 by decide), eq_false (show ¬ (7 : Int32) = 1 by decide), eq_false (show ¬ (7 : Int32) = 2 by decide), eq_false (show ¬ (7 : Int32) = 3 by decide), eq_false (show ¬ (7 : Int32) = 4 by decide), eq_false (show ¬ (7 : Int32) = 5 by decide), eq_false (show ¬ (7 : Int32) = 6 by decide), eq_false (show ¬ (7 : Int32) = 8 by decide), eq_false (show ¬ (7 : Int32) = 9 by decide), eq_false (show ¬ (7 : Int32) = 10 by decide), if_true, if_false, mb_t (H.i80 hi), H.icl hi, H.a66]
theorem Wf.of8 (H : Wf σ v g t m n x s b w) {i : Nat} (hi : i < n) : sp_23 (nI i) 8 σ = rt (σ 32 i) σ := by
  have hc : rg (8 : Int32) 11 := by decide
  have ha : rg (nI i) n := rg_nI hi (by have := H.n2; omega)
  unfold sp_23 sp_25
  simp only [H.q1n, bn_rt, if_bI ha, e1_11, if_bI hc, eq_false (show ¬ (8 : Int32) = 0 by decide), eq_false (show ¬ (8 : Int32) = 1 by decide), eq_false (show ¬ (8 : Int32) = 2 by decide), eq_false (show ¬ (8 : Int32) = 3 by decide), eq_false (show ¬ (8 : Int32) = 4 by decide), eq_false (show ¬ (8 : Int32) = 5 by decide), eq_false (show ¬ (8 : Int32) = 6 by decide), eq_false (show ¬ (8 : Int32) = 7 by decide), eq_false (show ¬ (8 : Int32) = 9 by decide), eq_false (show ¬ (8 : Int32) = 10 by decide), if_true, if_false, mb_t (H.i80 hi), H.icl hi]
theorem Wf.om8 (H : Wf σ v g t m n x s b w) {i : Nat} (hi : i < n) : sp_139 (nI i) 8 σ = rt (σ 32 i) σ := by
  have ha : rg (nI i) n := rg_nI hi (by have := H.n2; omega)
  unfold sp_139
  simp only [H.qn, bn_rt, if_bI ha, eq_false (show ¬ (8 : Int32) = 0 by decide), eq_false (show ¬ (8 : Int32) = 1 by decide), eq_false (show ¬ (8 : Int32) = 2 by decide), eq_false (show ¬ (8 : Int32) = 3 by decide), eq_false (show ¬ (8 : Int32) = 4 by decide), eq_false (show ¬ (8 : Int32) = 5 by decide), eq_false (show ¬ (8 : Int32) = 6 by decide), eq_false (show ¬ (8 : Int32) = 7 by decide), eq_false (show ¬ (8 : Int32) = 9 by decide), eq_false (show ¬ (8 : Int32) = 10 by decide), if_true, if_false, mb_t (H.i80 hi), H.icl hi, H.a67]
theorem Wf.of9 (H : Wf σ v g t m n x s b w) {i : Nat} (hi : i < n) : sp_23 (nI i) 9 σ = rt (σ 33 i) σ := by
  have hc : rg (9 : Int32) 11 := by decide
  have ha : rg (nI i) n := rg_nI hi (by have := H.n2; omega)
  unfold sp_23 sp_25
  simp only [H.q1n, bn_rt, if_bI ha, e1_11, if_bI hc, eq_false (show ¬ (9 : Int32) = 0 by decide), eq_false (show ¬ (9 : Int32) = 1 by decide), eq_false (show ¬ (9 : Int32) = 2 by decide), eq_false (show ¬ (9 : Int32) = 3 by decide), eq_false (show ¬ (9 : Int32) = 4 by decide), eq_false (show ¬ (9 : Int32) = 5 by decide), eq_false (show ¬ (9 : Int32) = 6 by decide), eq_false (show ¬ (9 : Int32) = 7 by decide), eq_false (show ¬ (9 : Int32) = 8 by decide), eq_false (show ¬ (9 : Int32) = 10 by decide), if_true, if_false, mb_t (H.i80 hi), H.icl hi]
theorem Wf.om9 (H : Wf σ v g t m n x s b w) {i : Nat} (hi : i < n) : sp_139 (nI i) 9 σ = rt (σ 33 i) σ := by
  have ha : rg (nI i) n := rg_nI hi (by have := H.n2; omega)
  unfold sp_139
  simp only [H.qn, bn_rt, if_bI ha, eq_false (show ¬ (9 : Int32) = 0 by decide), eq_false (show ¬ (9 : Int32) = 1 by decide), eq_false (show ¬ (9 : Int32) = 2 by decide), eq_false (show ¬ (9 : Int32) = 3 by decide), eq_false (show ¬ (9 : Int32) = 4 by decide), eq_false (show ¬ (9 : Int32) = 5 by decide), eq_false (show ¬ (9 : Int32) = 6 by decide), eq_false (show ¬ (9 : Int32) = 7 by decide), eq_false (show ¬ (9 : Int32) = 8 by decide), eq_false (show ¬ (9 : Int32) = 10 by decide), if_true, if_false, mb_t (H.i80 hi), H.icl hi, H.a70]
  exact r01 (H.p01 hi) σ
theorem Wf.of10 (H : Wf σ v g t m n x s b w) {i : Nat} (hi : i < n) : sp_23 (nI i) 10 σ = rt (gr σ m i) σ := by
  have hc : rg (10 : Int32) 11 := by decide
  have ha : rg (nI i) n := rg_nI hi (by have := H.n2; omega)
  unfold sp_23
  simp only [H.q1n, bn_rt, if_bI ha, e1_11, if_bI hc, if_true, H.f24 hi]
theorem Wf.om10 (H : Wf σ v g t m n x s b w) {i : Nat} (hi : i < n) : sp_139 (nI i) 10 σ = rt (gr σ m i) σ := by
  have ha : rg (nI i) n := rg_nI hi (by have := H.n2; omega)
  unfold sp_139
  simp only [H.qn, bn_rt, if_bI ha, eq_false (show ¬ (10 : Int32) = 0 by decide), eq_false (show ¬ (10 : Int32) = 1 by decide), eq_false (show ¬ (10 : Int32) = 2 by decide), eq_false (show ¬ (10 : Int32) = 3 by decide), eq_false (show ¬ (10 : Int32) = 4 by decide), eq_false (show ¬ (10 : Int32) = 5 by decide), eq_false (show ¬ (10 : Int32) = 6 by decide), eq_false (show ¬ (10 : Int32) = 7 by decide), eq_false (show ¬ (10 : Int32) = 8 by decide), eq_false (show ¬ (10 : Int32) = 9 by decide), if_true, if_false, H.f141 hi]
end
theorem pr_7 : Pr_7 Inv := by
  intro a c σ hI
  obtain ⟨v, g, t, m, n, x, s, b, w, H⟩ := inv_wf hI
  have H1 := H.ft 1
  by_cases ha : rg a n
  · by_cases hc : rg c 11
    · obtain ⟨i, hi, rfl⟩ := rg_of ha (by have := H.n2; omega)
      obtain ⟨j, hj, rfl⟩ := rg_of hc (by omega)
      rcases (show j = 0 ∨ j = 1 ∨ j = 2 ∨ j = 3 ∨ j = 4 ∨ j = 5 ∨ j = 6 ∨ j = 7 ∨ j = 8 ∨ j = 9 ∨ j = 10 by omega) with rfl | rfl | rfl | rfl | rfl | rfl | rfl | rfl | rfl | rfl | rfl
      · exact P2_of (H.of0 hi) (H.om0 hi) hI
      · exact P2_of (H.of1 hi) (H.om1 hi) hI
      · exact P2_of (H.of2 hi) (H.om2 hi) hI
      · exact P2_of (H.of3 hi) (H.om3 hi) hI
      · exact P2_of (H.of4 hi) (H.om4 hi) hI
      · exact P2_of (H.of5 hi) (H.om5 hi) hI
      · exact P2_of (H.of6 hi) (H.om6 hi) hI
      · exact P2_of (H.of7 hi) (H.om7 hi) hI
      · exact P2_of (H.of8 hi) (H.om8 hi) hI
      · exact P2_of (H.of9 hi) (H.om9 hi) hI
      · exact P2_of (H.of10 hi) (H.om10 hi) hI
    · refine p2_b1 hI ?_ ?_
      · unfold sp_23
        simp only [H.q1n, bn_rt, if_bI ha, e1_11, bI_i0, if_neg hc, e2_1]
      · show sp_139 a c (fT 1 σ) = _
        unfold sp_139
        have hne : ∀ j : Nat, j < 11 → ¬ c = nI j := fun j hj e => hc (by rw [e]; exact rg_nI hj (by omega))
        simp only [H1.qn, bn_rt, if_bI ha, e125_1, eq_false (show ¬ c = 0 from hne 0 (by omega)), eq_false (show ¬ c = 1 from hne 1 (by omega)), eq_false (show ¬ c = 2 from hne 2 (by omega)), eq_false (show ¬ c = 3 from hne 3 (by omega)), eq_false (show ¬ c = 4 from hne 4 (by omega)), eq_false (show ¬ c = 5 from hne 5 (by omega)), eq_false (show ¬ c = 6 from hne 6 (by omega)), eq_false (show ¬ c = 7 from hne 7 (by omega)), eq_false (show ¬ c = 8 from hne 8 (by omega)), eq_false (show ¬ c = 9 from hne 9 (by omega)), eq_false (show ¬ c = 10 from hne 10 (by omega)), if_false]
  · refine p2_b1 hI ?_ ?_
    · unfold sp_23
      simp only [H.q1n, bn_rt, bI_i0, if_neg ha, e2_1]
    · show sp_139 a c (fT 1 σ) = _
      unfold sp_139
      simp only [H1.qn, bn_rt, bI_i0, if_neg ha, e125_1]
/-- what a text says -/
theorem pr_10 : Pr_10 Inv := by
  intro d c σ hI
  obtain ⟨v, g, t, m, n, x, s, b, w, H⟩ := inv_wf hI
  have h150 : sp_150 d (fT 2 σ) = rt (txF (σ 39) d x) (fT 2 σ) := (H.ft 2).e150 d
  have l10 : ((1 : Int32) = 0) = False := eq_false n10
  by_cases hd : rg d 10000
  · have hx := H.x2
    by_cases h0 : c = 0
    · subst h0
      by_cases hS : 0 ≤ txF (σ 39) d x
      · obtain ⟨h6, h7, hk⟩ := H.txp hS
        refine P2_of (r := σ 40 (txF (σ 39) d x).toNatClampNeg) (σ1 := σ) (σ2 := σ) ?_ ?_ hI
        · unfold sp_39
          simp only [if_true, e1_d, bn_rt, if_bI hd, l10, if_false, H.e40, if_pos hS, eq_true (show (0 : Int32) < 10 by decide), mb_t h6]
        · show sp_149 d 0 σ = _
          unfold sp_149
          simp only [e124, bn_rt, if_bI hd, e123_1, if_bI (show rg (0 : Int32) 2 by decide), H.e150, if_pos hS, if_true, mb_t h7, H.a74]
      · refine p2_b2 hI ?_ ?_
        · unfold sp_39
          simp only [if_true, e1_d, bn_rt, if_bI hd, l10, if_false, H.e40, if_neg hS, e2_2]
        · show sp_149 d 0 (fT 2 σ) = _
          unfold sp_149
          simp only [e124, bn_rt, if_bI hd, e123_1, if_bI (show rg (0 : Int32) 2 by decide), h150, if_neg hS, e125_2]
    · by_cases h1 : c = 1
      · subst h1
        by_cases hS : 0 ≤ txF (σ 39) d x
        · obtain ⟨h6, h7, hk⟩ := H.txp hS
          refine P2_of (r := σ 41 (txF (σ 39) d x).toNatClampNeg) (σ1 := σ) (σ2 := σ) ?_ ?_ hI
          · unfold sp_39
            simp only [if_true, e1_d, bn_rt, if_bI hd, l10, if_false, H.e40, if_pos hS, eq_true (show (1 : Int32) < 10 by decide), mb_t h6]
          · show sp_149 d 1 σ = _
            unfold sp_149
            simp only [e124, bn_rt, if_bI hd, e123_1, if_bI (show rg (1 : Int32) 2 by decide), H.e150, if_pos hS, if_true, l10, if_false, mb_t h7, H.a75]
        · refine p2_b2 hI ?_ ?_
          · unfold sp_39
            simp only [if_true, e1_d, bn_rt, if_bI hd, l10, if_false, H.e40, if_neg hS, e2_2]
          · show sp_149 d 1 (fT 2 σ) = _
            unfold sp_149
            simp only [e124, bn_rt, if_bI hd, e123_1, if_bI (show rg (1 : Int32) 2 by decide), h150, if_neg hS, e125_2]
      · have hn2 : ¬ rg c 2 := by
          intro z
          obtain ⟨j, hj, e⟩ := rg_of z (by omega)
          rcases (show j = 0 ∨ j = 1 by omega) with rfl | rfl
          · exact h0 e
          · exact h1 e
        by_cases h2 : c < 10
        · refine p2_b1 hI ?_ ?_
          · unfold sp_39
            simp only [if_neg h0, if_neg h1, if_pos h2, e1_d, bn_rt, if_bI hd, if_true, e2_1]
          · show sp_149 d c (fT 1 σ) = _
            unfold sp_149
            simp only [e124, bn_rt, if_bI hd, e123_1, bI_i0, if_neg hn2, e123_lo h2, if_true, e125_1]
        · by_cases h3 : 14 ≤ c
          · have h4 : (13 : Int32) < c := by
              have h3 := Int32.le_iff_toInt_le.mp h3
              rw [Int32.lt_iff_toInt_lt]
              have a1 : (14 : Int32).toInt = 14 := rfl
              have a2 : (13 : Int32).toInt = 13 := rfl
              omega
            refine p2_b1 hI ?_ ?_
            · unfold sp_39
              simp only [if_neg h0, if_neg h1, if_neg h2, if_pos h3, e1_d, bn_rt, if_bI hd, if_true, e2_1]
            · show sp_149 d c (fT 1 σ) = _
              unfold sp_149
              simp only [e124, bn_rt, if_bI hd, e123_1, bI_i0, if_neg hn2, e123_hi h4, if_true, e125_1]
          · have h4 : ¬ (13 : Int32) < c := by
              intro z
              have z := Int32.lt_iff_toInt_lt.mp z
              apply h3
              rw [Int32.le_iff_toInt_le]
              have a1 : (14 : Int32).toInt = 14 := rfl
              have a2 : (13 : Int32).toInt = 13 := rfl
              omega
            obtain ⟨j, hj, hc⟩ : ∃ j, j < 4 ∧ c = nI (10 + j) := by
              have z1 := Int32.le_iff_toInt_le.mp (Int32.not_lt.mp h2)
              have z2 := Int32.le_iff_toInt_le.mp (Int32.not_lt.mp h4)
              have a1 : (10 : Int32).toInt = 10 := rfl
              have a2 : (13 : Int32).toInt = 13 := rfl
              obtain ⟨p, hp, e⟩ := rg_of (x := c) (n := 14) ⟨by omega, by omega⟩ (by omega)
              rw [e, nI_toInt (by omega)] at z1
              exact ⟨p - 10, by omega, by rw [e]; congr 1; omega⟩
            by_cases hS : 0 ≤ txF (σ 39) d x
            · obtain ⟨h6, h7, hk⟩ := H.txp hS
              have hj4 : rg (c - 10) 4 := by
                rw [hc, show (10 : Int32) = nI 10 from rfl, pk_sub (by omega)]
                exact rg_nI (by omega) (by omega)
              have hix : ((4 : Int32) * txF (σ 39) d x + c) - 10 = txF (σ 39) d x * 4 + (c - 10) := by
                rw [Int32.mul_comm, Int32.sub_eq_add_neg, Int32.sub_eq_add_neg, Int32.add_assoc]
              refine P2_of (r := σ 42 (txF (σ 39) d x * 4 + (c - 10)).toNatClampNeg) (σ1 := σ) (σ2 := σ) ?_ ?_ hI
              · unfold sp_39
                simp only [if_neg h0, if_neg h1, if_neg h2, if_neg h3, e1_d, bn_rt, if_bI hd, l10, if_false, H.e40, if_pos hS, e41 (hk _ hj4).1]
              · show sp_149 d c σ = _
                unfold sp_149
                simp only [e124, bn_rt, if_bI hd, e123_1, bI_i0, if_neg hn2, e123_in h2 h4, l10, if_false, H.e150, if_pos hS, if_neg h0, if_neg h1, hix, mb_t (hk _ hj4).2, H.a76]
            · refine p2_b2 hI ?_ ?_
              · unfold sp_39
                simp only [if_neg h0, if_neg h1, if_neg h2, if_neg h3, e1_d, bn_rt, if_bI hd, l10, if_false, H.e40, if_neg hS, e2_2]
              · show sp_149 d c (fT 2 σ) = _
                unfold sp_149
                simp only [e124, bn_rt, if_bI hd, e123_1, bI_i0, if_neg hn2, e123_in h2 h4, l10, if_false, h150, if_neg hS, e125_2]
  · refine p2_b1 hI ?_ ?_
    · unfold sp_39
      simp only [e1_d, bn_rt, bI_i0, if_neg hd, e2_1, ite_self]
    · show sp_149 d c (fT 1 σ) = _
      unfold sp_149
      simp only [e124, bn_rt, bI_i0, if_neg hd, e125_1]
