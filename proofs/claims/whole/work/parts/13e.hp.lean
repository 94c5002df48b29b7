/-! the code does what the functions say (written by wip/whole/gen/spec.py) -/
-- TradeTestsModel.alike
set_option maxHeartbeats 20000000 in
set_option maxRecDepth 100000 in
theorem hp_169 {sc : Nat × (Nat → Int32)} {Q : Int32 → St → Prop} {x1 : Int32} {σ : St} (h : Ap (sp_169 x1 σ) Q) : Ex sc CC 1 cd_169 Q 0 [some (.ref 12), some (.int x1)] [] σ := by
  have v : CC 140 [.ref 12, .int x1] σ (fun r7 σ7 => (r7 = 0 → CC 125 [.ref 12, .int 1] σ7 (fun r8 σ8 => Q r8 σ8)) ∧ (¬ r7 = 0 → CC 163 [.ref 12, .int x1] σ7 (fun r9 σ9 => Q r9 σ9))) := cc_140 (n_bn h (fun r7 σ7 h => n_if h (fun h => cc_125 (n_bn h (fun r8 σ8 h => n_rt h))) (fun h => cc_163 (n_bn h (fun r9 σ9 h => n_rt h)))))
  exact wpn_Ex (cuts := []) monCC (fun _ _ _ _ z => z) 10 0 _ _ _ v
-- TradeTestsModel.pointsOf
set_option maxHeartbeats 20000000 in
set_option maxRecDepth 100000 in
theorem hl_175_58 {sc : Nat × (Nat → Int32)} {Q : Int32 → St → Prop} : ∀ (v1 : Int32) (v2 : Int32) (σ : St), Ap (lp_175_58 v1 v2 σ) Q → Ex sc CC 1 cd_175 Q 58 [some (.ref 12), some (.int v1), some (.int v2)] [] σ := by
  intro v1 v2 σ h
  have v : vp_in v1 80 ∧ (((σ 71 (v1).toNatClampNeg) = 0 → CC 176 [.ref 12, .int v1] σ (fun r39 σ39 => CC 160 [.int r39] σ39 (fun r40 σ40 => Q (v2 + ((10 : Int32) * r40)) σ40))) ∧ (¬ (σ 71 (v1).toNatClampNeg) = 0 → CC 176 [.ref 12, .int v1] σ (fun r41 σ41 => CC 160 [.int r41] σ41 (fun r42 σ42 => Q ((0 : Int32) + ((10 : Int32) * r42)) σ42)))) := n_mb h (fun h => n_if h (fun h => cc_176 (n_bn h (fun r39 σ39 h => cc_160 (n_bn h (fun r40 σ40 h => n_rt h))))) (fun h => cc_176 (n_bn h (fun r41 σ41 h => cc_160 (n_bn h (fun r42 σ42 h => n_rt h))))))
  exact stw_Ex (cuts := [58]) monCC 15 v
set_option maxHeartbeats 20000000 in
set_option maxRecDepth 100000 in
theorem hp_175 {sc : Nat × (Nat → Int32)} {Q : Int32 → St → Prop} {x1 : Int32} {σ : St} (h : Ap (sp_175 x1 σ) Q) : Ex sc CC 1 cd_175 Q 0 [some (.ref 12), some (.int x1), none] [] σ := by
  have v : CC 154 [.ref 12, .int x1] σ (fun r43 σ43 => (¬ r43 = 1 → CC 165 [.ref 12, .int x1] σ43 (fun r44 σ44 => (r44 = 0 → CC 166 [.ref 12, .int x1] σ44 (fun r45 σ45 => (r45 = 0 → CC 167 [.ref 12, .int x1] σ45 (fun r46 σ46 => (r46 = 0 → Ex sc CC 1 cd_175 Q 58 [some (.ref 12), some (.int x1), some (.int ((((0 : Int32) + 0) + 0) + 0))] [] σ46) ∧ (¬ r46 = 0 → Ex sc CC 1 cd_175 Q 58 [some (.ref 12), some (.int x1), some (.int ((((0 : Int32) + 0) + 0) + 1))] [] σ46))) ∧ (¬ r45 = 0 → CC 167 [.ref 12, .int x1] σ45 (fun r47 σ47 => (r47 = 0 → Ex sc CC 1 cd_175 Q 58 [some (.ref 12), some (.int x1), some (.int ((((0 : Int32) + 0) + 4) + 0))] [] σ47) ∧ (¬ r47 = 0 → Ex sc CC 1 cd_175 Q 58 [some (.ref 12), some (.int x1), some (.int ((((0 : Int32) + 0) + 4) + 1))] [] σ47))))) ∧ (¬ r44 = 0 → CC 166 [.ref 12, .int x1] σ44 (fun r48 σ48 => (r48 = 0 → CC 167 [.ref 12, .int x1] σ48 (fun r49 σ49 => (r49 = 0 → Ex sc CC 1 cd_175 Q 58 [some (.ref 12), some (.int x1), some (.int ((((0 : Int32) + 2) + 0) + 0))] [] σ49) ∧ (¬ r49 = 0 → Ex sc CC 1 cd_175 Q 58 [some (.ref 12), some (.int x1), some (.int ((((0 : Int32) + 2) + 0) + 1))] [] σ49))) ∧ (¬ r48 = 0 → CC 167 [.ref 12, .int x1] σ48 (fun r50 σ50 => (r50 = 0 → Ex sc CC 1 cd_175 Q 58 [some (.ref 12), some (.int x1), some (.int ((((0 : Int32) + 2) + 4) + 0))] [] σ50) ∧ (¬ r50 = 0 → Ex sc CC 1 cd_175 Q 58 [some (.ref 12), some (.int x1), some (.int ((((0 : Int32) + 2) + 4) + 1))] [] σ50))))))) ∧ (r43 = 1 → CC 165 [.ref 12, .int x1] σ43 (fun r51 σ51 => (r51 = 0 → CC 166 [.ref 12, .int x1] σ51 (fun r52 σ52 => (r52 = 0 → CC 167 [.ref 12, .int x1] σ52 (fun r53 σ53 => (r53 = 0 → Ex sc CC 1 cd_175 Q 58 [some (.ref 12), some (.int x1), some (.int ((((6 : Int32) + 0) + 0) + 0))] [] σ53) ∧ (¬ r53 = 0 → Ex sc CC 1 cd_175 Q 58 [some (.ref 12), some (.int x1), some (.int ((((6 : Int32) + 0) + 0) + 1))] [] σ53))) ∧ (¬ r52 = 0 → CC 167 [.ref 12, .int x1] σ52 (fun r54 σ54 => (r54 = 0 → Ex sc CC 1 cd_175 Q 58 [some (.ref 12), some (.int x1), some (.int ((((6 : Int32) + 0) + 4) + 0))] [] σ54) ∧ (¬ r54 = 0 → Ex sc CC 1 cd_175 Q 58 [some (.ref 12), some (.int x1), some (.int ((((6 : Int32) + 0) + 4) + 1))] [] σ54))))) ∧ (¬ r51 = 0 → CC 166 [.ref 12, .int x1] σ51 (fun r55 σ55 => (r55 = 0 → CC 167 [.ref 12, .int x1] σ55 (fun r56 σ56 => (r56 = 0 → Ex sc CC 1 cd_175 Q 58 [some (.ref 12), some (.int x1), some (.int ((((6 : Int32) + 2) + 0) + 0))] [] σ56) ∧ (¬ r56 = 0 → Ex sc CC 1 cd_175 Q 58 [some (.ref 12), some (.int x1), some (.int ((((6 : Int32) + 2) + 0) + 1))] [] σ56))) ∧ (¬ r55 = 0 → CC 167 [.ref 12, .int x1] σ55 (fun r57 σ57 => (r57 = 0 → Ex sc CC 1 cd_175 Q 58 [some (.ref 12), some (.int x1), some (.int ((((6 : Int32) + 2) + 4) + 0))] [] σ57) ∧ (¬ r57 = 0 → Ex sc CC 1 cd_175 Q 58 [some (.ref 12), some (.int x1), some (.int ((((6 : Int32) + 2) + 4) + 1))] [] σ57)))))))) := cc_154 (n_bn h (fun r43 σ43 h => n_ne h (fun h => cc_165 (n_bn h (fun r51 σ51 h => n_if h (fun h => cc_166 (n_bn h (fun r52 σ52 h => n_if h (fun h => cc_167 (n_bn h (fun r53 σ53 h => n_if h (fun h => hl_175_58 x1 ((((6 : Int32) + 0) + 0) + 0) σ53 h) (fun h => hl_175_58 x1 ((((6 : Int32) + 0) + 0) + 1) σ53 h)))) (fun h => cc_167 (n_bn h (fun r54 σ54 h => n_if h (fun h => hl_175_58 x1 ((((6 : Int32) + 0) + 4) + 0) σ54 h) (fun h => hl_175_58 x1 ((((6 : Int32) + 0) + 4) + 1) σ54 h))))))) (fun h => cc_166 (n_bn h (fun r55 σ55 h => n_if h (fun h => cc_167 (n_bn h (fun r56 σ56 h => n_if h (fun h => hl_175_58 x1 ((((6 : Int32) + 2) + 0) + 0) σ56 h) (fun h => hl_175_58 x1 ((((6 : Int32) + 2) + 0) + 1) σ56 h)))) (fun h => cc_167 (n_bn h (fun r57 σ57 h => n_if h (fun h => hl_175_58 x1 ((((6 : Int32) + 2) + 4) + 0) σ57 h) (fun h => hl_175_58 x1 ((((6 : Int32) + 2) + 4) + 1) σ57 h)))))))))) (fun h => cc_165 (n_bn h (fun r44 σ44 h => n_if h (fun h => cc_166 (n_bn h (fun r45 σ45 h => n_if h (fun h => cc_167 (n_bn h (fun r46 σ46 h => n_if h (fun h => hl_175_58 x1 ((((0 : Int32) + 0) + 0) + 0) σ46 h) (fun h => hl_175_58 x1 ((((0 : Int32) + 0) + 0) + 1) σ46 h)))) (fun h => cc_167 (n_bn h (fun r47 σ47 h => n_if h (fun h => hl_175_58 x1 ((((0 : Int32) + 0) + 4) + 0) σ47 h) (fun h => hl_175_58 x1 ((((0 : Int32) + 0) + 4) + 1) σ47 h))))))) (fun h => cc_166 (n_bn h (fun r48 σ48 h => n_if h (fun h => cc_167 (n_bn h (fun r49 σ49 h => n_if h (fun h => hl_175_58 x1 ((((0 : Int32) + 2) + 0) + 0) σ49 h) (fun h => hl_175_58 x1 ((((0 : Int32) + 2) + 0) + 1) σ49 h)))) (fun h => cc_167 (n_bn h (fun r50 σ50 h => n_if h (fun h => hl_175_58 x1 ((((0 : Int32) + 2) + 4) + 0) σ50 h) (fun h => hl_175_58 x1 ((((0 : Int32) + 2) + 4) + 1) σ50 h))))))))))))
  exact wpn_Ex (cuts := [58]) monCC (fun _ _ _ _ z => z) 31 0 _ _ _ v
-- TradeTestsModel.leansOn
set_option maxHeartbeats 20000000 in
set_option maxRecDepth 100000 in
theorem hl_190_5 {sc : Nat × (Nat → Int32)} {Q : Int32 → St → Prop} : ∀ (n : Nat) (v1 : Int32) (v2 : Int32) (v3 : Int32) (v4 : Int32) (σ : St), Ap (lp_190_5 n v1 v2 v3 v4 σ) Q → Ex sc CC 1 cd_190 Q 5 [some (.ref 12), some (.int v1), some (.int v2), some (.int v3), some (.int v4)] [] σ := by
  intro n
  induction n with
  | zero => intro v1 v2 v3 v4 σ h; exact n_no h
  | succ n ih =>
    intro v1 v2 v3 v4 σ h
    have v : ((σ 12 4) ≤ v4 → (v3 < 0 → Q 0 σ) ∧ (¬ v3 < 0 → CC 154 [.ref 12, .int v3] σ (fun r5 σ5 => (¬ r5 = 1 → Q 0 σ5) ∧ (r5 = 1 → vp_in v3 80 ∧ (CC 129 [.ref 12, .int v1] σ5 (fun r6 σ6 => (((σ5 61 (v3).toNatClampNeg) + r6) < v2 → Q 0 σ6) ∧ (¬ ((σ5 61 (v3).toNatClampNeg) + r6) < v2 → Q 1 σ6))))))) ∧ (¬ (σ 12 4) ≤ v4 → vp_in v4 80 ∧ ((¬ (σ 59 (v4).toNatClampNeg) = v1 → Ex sc CC 1 cd_190 Q 5 [some (.ref 12), some (.int v1), some (.int v2), some (.int v3), some (.int (v4 + 1))] [] σ) ∧ ((σ 59 (v4).toNatClampNeg) = v1 → vp_in v4 80 ∧ ((v2 < (σ 61 (v4).toNatClampNeg) → Ex sc CC 1 cd_190 Q 5 [some (.ref 12), some (.int v1), some (.int v2), some (.int v3), some (.int (v4 + 1))] [] σ) ∧ (¬ v2 < (σ 61 (v4).toNatClampNeg) → Ex sc CC 1 cd_190 Q 5 [some (.ref 12), some (.int v1), some (.int v2), some (.int v4), some (.int (v4 + 1))] [] σ))))) := n_if h (fun h => n_if h (fun h => n_rt h) (fun h => cc_154 (n_bn h (fun r5 σ5 h => n_ne h (fun h => n_mb h (fun h => cc_129 (n_bn h (fun r6 σ6 h => n_if h (fun h => n_rt h) (fun h => n_rt h))))) (fun h => n_rt h))))) (fun h => n_mb h (fun h => n_ne h (fun h => n_mb h (fun h => n_if h (fun h => ih v1 v2 v3 (v4 + 1) σ h) (fun h => ih v1 v2 v4 (v4 + 1) σ h))) (fun h => ih v1 v2 v3 (v4 + 1) σ h)))
    exact stw_Ex (cuts := [5]) monCC 24 v
set_option maxHeartbeats 20000000 in
set_option maxRecDepth 100000 in
theorem hp_190 {sc : Nat × (Nat → Int32)} {Q : Int32 → St → Prop} {x1 x2 : Int32} {σ : St} (h : Ap (sp_190 x1 x2 σ) Q) : Ex sc CC 1 cd_190 Q 0 [some (.ref 12), some (.int x1), some (.int x2), none, none] [] σ := by
  have v : Ex sc CC 1 cd_190 Q 5 [some (.ref 12), some (.int x1), some (.int x2), some (.int (-1)), some (.int 0)] [] σ := hl_190_5 FU x1 x2 (-1) 0 σ h
  exact wpn_Ex (cuts := [5]) monCC (fun _ _ _ _ z => z) 6 0 _ _ _ v
-- TradeTests$Texts.readRows
set_option maxHeartbeats 20000000 in
set_option maxRecDepth 100000 in
theorem hl_31_7 {sc : Nat × (Nat → Int32)} {Q : Int32 → St → Prop} : ∀ (n : Nat) (v1 : Int32) (σ : St), Ap (lp_31_7 n v1 σ) Q → Ex sc CC 2 cd_31 Q 7 [some (.ref 4), some (.int v1)] [] σ := by
  intro n
  induction n with
  | zero => intro v1 σ h; exact n_no h
  | succ n ih =>
    intro v1 σ h
    have v : (60 ≤ v1 → ((1 : Int32) = 0 ∨ (1 : Int32) = 1) ∧ Q 1 σ) ∧ (¬ 60 ≤ v1 → ((σ 4 1) ≤ (σ 4 2) → ((1 : Int32) = 0 ∨ (1 : Int32) = 1) ∧ Q 1 σ) ∧ (¬ (σ 4 1) ≤ (σ 4 2) → CC 32 [.ref 4] σ (fun r3 σ3 => (¬ r3 = 0 → Ex sc CC 2 cd_31 Q 7 [some (.ref 4), some (.int (v1 + 1))] [] σ3) ∧ (r3 = 0 → ((0 : Int32) = 0 ∨ (0 : Int32) = 1) ∧ Q 0 σ3)))) := n_if h (fun h => n_rb h) (fun h => n_if h (fun h => n_rb h) (fun h => cc_32 (n_bn h (fun r3 σ3 h => n_ne h (fun h => n_rb h) (fun h => ih (v1 + 1) σ3 h)))))
    exact stw_Ex (cuts := [7]) monCC 14 v
set_option maxHeartbeats 20000000 in
set_option maxRecDepth 100000 in
theorem hp_31 {sc : Nat × (Nat → Int32)} {Q : Int32 → St → Prop}  {σ : St} (h : Ap (sp_31  σ) Q) : Ex sc CC 2 cd_31 Q 0 [some (.ref 4), none] [] σ := by
  have v : Ex sc CC 2 cd_31 Q 7 [some (.ref 4), some (.int 0)] [] (up σ 4 2 0) := hl_31_7 FU 0 (up σ 4 2 0) h
  exact wpn_Ex (cuts := [7]) monCC (fun _ _ _ _ z => z) 7 0 _ _ _ v
-- TradeTests$Plan.survey
set_option maxHeartbeats 20000000 in
set_option maxRecDepth 100000 in
theorem hl_49_12 {sc : Nat × (Nat → Int32)} {Q : Int32 → St → Prop} : ∀ (n : Nat) (v1 : Int32) (v2 : Int32) (σ : St), Ap (lp_49_12 n v1 v2 σ) Q → Ex sc CC 0 cd_49 Q 12 [some (.ref 11), some (.int v1), some (.int v2)] [] σ := by
  intro n
  induction n with
  | zero => intro v1 v2 σ h; exact n_no h
  | succ n ih =>
    intro v1 v2 σ h
    have v : ((σ 3 14) ≤ v2 → Q 0 σ) ∧ (¬ (σ 3 14) ≤ v2 → CC 24 [.ref 2, .ref 3, .int v2] σ (fun r9 σ9 => (¬ r9 = v1 → Ex sc CC 0 cd_49 Q 12 [some (.ref 11), some (.int v1), some (.int (v2 + 1))] [] σ9) ∧ (r9 = v1 → CC 50 [.ref 6, .int v2] σ9 (fun r10 σ10 => CC 59 [.int r10] σ10 (fun r11 σ11 => CC 60 [.ref 9, .int v2] (up σ11 11 6 ((σ9 11 6) + r11)) (fun r12 σ12 => Ex sc CC 0 cd_49 Q 12 [some (.ref 11), some (.int v1), some (.int (v2 + 1))] [] (up σ12 11 7 ((σ11 11 7) ||| r12)))))))) := n_if h (fun h => n_rt h) (fun h => cc_24 (n_bn h (fun r9 σ9 h => n_ne h (fun h => cc_50 (n_bn h (fun r10 σ10 h => cc_59 (n_bn h (fun r11 σ11 h => cc_60 (n_bn h (fun r12 σ12 h => ih v1 (v2 + 1) (up σ12 11 7 ((σ11 11 7) ||| r12)) h))))))) (fun h => ih v1 (v2 + 1) σ9 h))))
    exact stw_Ex (cuts := [12]) monCC 35 v
set_option maxHeartbeats 20000000 in
set_option maxRecDepth 100000 in
theorem hp_49 {sc : Nat × (Nat → Int32)} {Q : Int32 → St → Prop} {x1 : Int32} {σ : St} (h : Ap (sp_49 x1 σ) Q) : Ex sc CC 0 cd_49 Q 0 [some (.ref 11), some (.int x1), none] [] σ := by
  have v : Ex sc CC 0 cd_49 Q 12 [some (.ref 11), some (.int x1), some (.int 0)] [] (up (up σ 11 6 1) 11 7 0) := hl_49_12 FU x1 0 (up (up σ 11 6 1) 11 7 0) h
  exact wpn_Ex (cuts := [12]) monCC (fun _ _ _ _ z => z) 10 0 _ _ _ v
-- TradeTests$Rates.figure
set_option maxHeartbeats 20000000 in
set_option maxRecDepth 100000 in
theorem hp_62 {sc : Nat × (Nat → Int32)} {Q : Int32 → St → Prop} {x1 x2 : Int32} {σ : St} (h : Ap (sp_62 x1 x2 σ) Q) : Ex sc CC 1 cd_62 Q 0 [some (.ref 7), some (.int x1), some (.int x2)] [] σ := by
  have v : CC 63 [.ref 7] σ (fun r9 σ9 => CC 66 [.ref 7, .int x1] σ9 (fun r10 σ10 => (x2 = 0 → Q (σ10 7 5) σ10) ∧ (¬ x2 = 0 → (x2 = 1 → Q (σ10 7 6) σ10) ∧ (¬ x2 = 1 → (x2 = 2 → Q (σ10 7 7) σ10) ∧ (¬ x2 = 2 → (x2 = 3 → Q (σ10 7 8) σ10) ∧ (¬ x2 = 3 → (x2 = 4 → CC 68 [.ref 7] σ10 (fun r12 σ12 => Q r12 σ12)) ∧ (¬ x2 = 4 → CC 69 [.ref 7] σ10 (fun r11 σ11 => Q r11 σ11)))))))) := cc_63 (n_bn h (fun r9 σ9 h => cc_66 (n_bn h (fun r10 σ10 h => n_if h (fun h => n_rt h) (fun h => n_if h (fun h => n_rt h) (fun h => n_if h (fun h => n_rt h) (fun h => n_if h (fun h => n_rt h) (fun h => n_if h (fun h => cc_68 (n_bn h (fun r12 σ12 h => n_rt h))) (fun h => cc_69 (n_bn h (fun r11 σ11 h => n_rt h)))))))))))
  exact wpn_Ex (cuts := []) monCC (fun _ _ _ _ z => z) 11 0 _ _ _ v
-- TradeTests.share
set_option maxHeartbeats 20000000 in
set_option maxRecDepth 100000 in
theorem hp_71 {sc : Nat × (Nat → Int32)} {Q : Int32 → St → Prop} {x1 x2 : Int32} {σ : St} (h : Ap (sp_71 x1 x2 σ) Q) : Ex sc CC 1 cd_71 Q 0 [some (.ref 0), some (.int x1), some (.int x2), none] [] σ := by
  have v : CC 1 [.int x1, .int 4] σ (fun r13 σ13 => (r13 = 0 → CC 2 [.ref 0, .int 1] σ13 (fun r14 σ14 => Q r14 σ14)) ∧ (¬ r13 = 0 → CC 1 [.int x2, .int 4] σ13 (fun r15 σ15 => (¬ r15 = 0 → CC 72 [.ref 7, .int x1, .int x2] σ15 (fun r16 σ16 => (0 ≤ r16 → Q r16 σ16) ∧ (¬ 0 ≤ r16 → CC 2 [.ref 0, .int 2] σ16 (fun r17 σ17 => Q r17 σ17)))) ∧ (r15 = 0 → CC 2 [.ref 0, .int 1] σ15 (fun r18 σ18 => Q r18 σ18))))) := cc_1 (n_bn h (fun r13 σ13 h => n_if h (fun h => cc_2 (n_bn h (fun r14 σ14 h => n_rt h))) (fun h => cc_1 (n_bn h (fun r15 σ15 h => n_ne h (fun h => cc_2 (n_bn h (fun r18 σ18 h => n_rt h))) (fun h => cc_72 (n_bn h (fun r16 σ16 h => n_if h (fun h => n_rt h) (fun h => cc_2 (n_bn h (fun r17 σ17 h => n_rt h)))))))))))
  exact wpn_Ex (cuts := []) monCC (fun _ _ _ _ z => z) 22 0 _ _ _ v
-- TradeTests.signs
set_option maxHeartbeats 20000000 in
set_option maxRecDepth 100000 in
theorem hp_73 {sc : Nat × (Nat → Int32)} {Q : Int32 → St → Prop} {x1 : Int32} {σ : St} (h : Ap (sp_73 x1 σ) Q) : Ex sc CC 1 cd_73 Q 0 [some (.ref 0), some (.int x1)] [] σ := by
  have v : CC 1 [.int x1, .int (σ 3 14)] σ (fun r7 σ7 => (¬ r7 = 0 → CC 50 [.ref 6, .int x1] σ7 (fun r8 σ8 => Q r8 σ8)) ∧ (r7 = 0 → CC 2 [.ref 0, .int 1] σ7 (fun r9 σ9 => Q r9 σ9))) := cc_1 (n_bn h (fun r7 σ7 h => n_ne h (fun h => cc_2 (n_bn h (fun r9 σ9 h => n_rt h))) (fun h => cc_50 (n_bn h (fun r8 σ8 h => n_rt h)))))
  exact wpn_Ex (cuts := []) monCC (fun _ _ _ _ z => z) 12 0 _ _ _ v
-- TradeTests.points
set_option maxHeartbeats 20000000 in
set_option maxRecDepth 100000 in
theorem hp_84 {sc : Nat × (Nat → Int32)} {Q : Int32 → St → Prop} {x1 : Int32} {σ : St} (h : Ap (sp_84 x1 σ) Q) : Ex sc CC 1 cd_84 Q 0 [some (.ref 0), some (.int x1)] [] σ := by
  have v : CC 1 [.int x1, .int (σ 3 14)] σ (fun r7 σ7 => (¬ r7 = 0 → CC 85 [.ref 10, .int x1] σ7 (fun r8 σ8 => Q r8 σ8)) ∧ (r7 = 0 → CC 2 [.ref 0, .int 1] σ7 (fun r9 σ9 => Q r9 σ9))) := cc_1 (n_bn h (fun r7 σ7 h => n_ne h (fun h => cc_2 (n_bn h (fun r9 σ9 h => n_rt h))) (fun h => cc_85 (n_bn h (fun r8 σ8 h => n_rt h)))))
  exact wpn_Ex (cuts := []) monCC (fun _ _ _ _ z => z) 12 0 _ _ _ v
-- TradeTests$Penalties.fillPoints
set_option maxHeartbeats 20000000 in
set_option maxRecDepth 100000 in
theorem hl_89_2 {sc : Nat × (Nat → Int32)} {Q : Int32 → St → Prop} : ∀ (n : Nat) (v1 : Int32) (v2 : Int32) (σ : St), Ap (lp_89_2 n v1 v2 σ) Q → Ex sc CC 0 cd_89 Q 2 [some (.ref 10), some (.int v1), some (.int v2)] [] σ := by
  intro n
  induction n with
  | zero => intro v1 v2 σ h; exact n_no h
  | succ n ih =>
    intro v1 v2 σ h
    have v : ((σ 3 14) ≤ v2 → Q 0 σ) ∧ (¬ (σ 3 14) ≤ v2 → vp_in v2 80 ∧ ((¬ (σ 25 (v2).toNatClampNeg) = v1 → vp_in v2 80 ∧ (Ex sc CC 0 cd_89 Q 2 [some (.ref 10), some (.int v1), some (.int (v2 + 1))] [] (up σ 47 (v2).toNatClampNeg 0))) ∧ ((σ 25 (v2).toNatClampNeg) = v1 → CC 85 [.ref 10, .int v2] σ (fun r3 σ3 => vp_in v2 80 ∧ (Ex sc CC 0 cd_89 Q 2 [some (.ref 10), some (.int v1), some (.int (v2 + 1))] [] (up σ3 47 (v2).toNatClampNeg r3)))))) := n_if h (fun h => n_rt h) (fun h => n_mb h (fun h => n_ne h (fun h => cc_85 (n_bn h (fun r3 σ3 h => n_mb h (fun h => ih v1 (v2 + 1) (up σ3 47 (v2).toNatClampNeg r3) h)))) (fun h => n_mb h (fun h => ih v1 (v2 + 1) (up σ 47 (v2).toNatClampNeg 0) h))))
    exact stw_Ex (cuts := [2]) monCC 23 v
set_option maxHeartbeats 20000000 in
set_option maxRecDepth 100000 in
theorem hp_89 {sc : Nat × (Nat → Int32)} {Q : Int32 → St → Prop} {x1 : Int32} {σ : St} (h : Ap (sp_89 x1 σ) Q) : Ex sc CC 0 cd_89 Q 0 [some (.ref 10), some (.int x1), none] [] σ := by
  have v : Ex sc CC 0 cd_89 Q 2 [some (.ref 10), some (.int x1), some (.int 0)] [] σ := hl_89_2 FU x1 0 σ h
  exact wpn_Ex (cuts := [2]) monCC (fun _ _ _ _ z => z) 4 0 _ _ _ v
-- TradeTests.leans
set_option maxHeartbeats 20000000 in
set_option maxRecDepth 100000 in
theorem hl_115_59 {sc : Nat × (Nat → Int32)} {Q : Int32 → St → Prop} : ∀ (n : Nat) (v1 : Int32) (v2 : Int32) (v3 : Int32) (v4 : Int32) (σ : St), Ap (lp_115_59 n v1 v2 v3 v4 σ) Q → Ex sc CC 1 cd_115 Q 59 [some (.ref 0), some (.int v1), some (.int v2), some (.int v3), some (.int v4)] [] σ := by
  intro n
  induction n with
  | zero => intro v1 v2 v3 v4 σ h; exact n_no h
  | succ n ih =>
    intro v1 v2 v3 v4 σ h
    have v : ((σ 1 3) ≤ v4 → Q v3 σ) ∧ (¬ (σ 1 3) ≤ v4 → CC 116 [.ref 5, .int v4, .int v2] σ (fun r13 σ13 => (r13 = 0 → Ex sc CC 1 cd_115 Q 59 [some (.ref 0), some (.int v1), some (.int v2), some (.int v3), some (.int (v4 + 1))] [] σ13) ∧ (¬ r13 = 0 → Ex sc CC 1 cd_115 Q 59 [some (.ref 0), some (.int v1), some (.int v2), some (.int (v3 + 1)), some (.int (v4 + 1))] [] σ13))) := n_if h (fun h => n_rt h) (fun h => cc_116 (n_bn h (fun r13 σ13 h => n_if h (fun h => ih v1 v2 v3 (v4 + 1) σ13 h) (fun h => ih v1 v2 (v3 + 1) (v4 + 1) σ13 h))))
    exact stw_Ex (cuts := [59]) monCC 15 v
set_option maxHeartbeats 20000000 in
set_option maxRecDepth 100000 in
theorem hp_115 {sc : Nat × (Nat → Int32)} {Q : Int32 → St → Prop} {x1 x2 : Int32} {σ : St} (h : Ap (sp_115 x1 x2 σ) Q) : Ex sc CC 1 cd_115 Q 0 [some (.ref 0), some (.int x1), some (.int x2), none, none] [] σ := by
  have v : (x1 < (-1) → CC 2 [.ref 0, .int 1] σ (fun r14 σ14 => Q r14 σ14)) ∧ (¬ x1 < (-1) → ((σ 1 3) ≤ x1 → CC 2 [.ref 0, .int 1] σ (fun r15 σ15 => Q r15 σ15)) ∧ (¬ (σ 1 3) ≤ x1 → CC 1 [.int x2, .int 10000] σ (fun r16 σ16 => (¬ r16 = 0 → (x1 < 0 → Ex sc CC 1 cd_115 Q 59 [some (.ref 0), some (.int x1), some (.int x2), some (.int 0), some (.int 0)] [] σ16) ∧ (¬ x1 < 0 → CC 116 [.ref 5, .int x1, .int x2] σ16 (fun r17 σ17 => (r17 = 0 → Q 0 σ17) ∧ (¬ r17 = 0 → Q 1 σ17)))) ∧ (r16 = 0 → CC 2 [.ref 0, .int 1] σ16 (fun r18 σ18 => Q r18 σ18))))) := n_if h (fun h => cc_2 (n_bn h (fun r14 σ14 h => n_rt h))) (fun h => n_if h (fun h => cc_2 (n_bn h (fun r15 σ15 h => n_rt h))) (fun h => cc_1 (n_bn h (fun r16 σ16 h => n_ne h (fun h => cc_2 (n_bn h (fun r18 σ18 h => n_rt h))) (fun h => n_if h (fun h => hl_115_59 FU x1 x2 0 0 σ16 h) (fun h => cc_116 (n_bn h (fun r17 σ17 h => n_if h (fun h => n_rt h) (fun h => n_rt h)))))))))
  exact wpn_Ex (cuts := [59]) monCC (fun _ _ _ _ z => z) 24 0 _ _ _ v
-- TradeTests$Signals.testsWithSigns
set_option maxHeartbeats 20000000 in
set_option maxRecDepth 100000 in
theorem hl_120_4 {sc : Nat × (Nat → Int32)} {Q : Int32 → St → Prop} : ∀ (n : Nat) (v1 : Int32) (v2 : Int32) (σ : St), Ap (lp_120_4 n v1 v2 σ) Q → Ex sc CC 1 cd_120 Q 4 [some (.ref 6), some (.int v1), some (.int v2)] [] σ := by
  intro n
  induction n with
  | zero => intro v1 v2 σ h; exact n_no h
  | succ n ih =>
    intro v1 v2 σ h
    have v : ((σ 3 14) ≤ v2 → Q v1 σ) ∧ (¬ (σ 3 14) ≤ v2 → CC 50 [.ref 6, .int v2] σ (fun r3 σ3 => (r3 = 0 → Ex sc CC 1 cd_120 Q 4 [some (.ref 6), some (.int v1), some (.int (v2 + 1))] [] σ3) ∧ (¬ r3 = 0 → Ex sc CC 1 cd_120 Q 4 [some (.ref 6), some (.int (v1 + 1)), some (.int (v2 + 1))] [] σ3))) := n_if h (fun h => n_rt h) (fun h => cc_50 (n_bn h (fun r3 σ3 h => n_if h (fun h => ih v1 (v2 + 1) σ3 h) (fun h => ih (v1 + 1) (v2 + 1) σ3 h))))
    exact stw_Ex (cuts := [4]) monCC 13 v
set_option maxHeartbeats 20000000 in
set_option maxRecDepth 100000 in
theorem hp_120 {sc : Nat × (Nat → Int32)} {Q : Int32 → St → Prop}  {σ : St} (h : Ap (sp_120  σ) Q) : Ex sc CC 1 cd_120 Q 0 [some (.ref 6), none, none] [] σ := by
  have v : Ex sc CC 1 cd_120 Q 4 [some (.ref 6), some (.int 0), some (.int 0)] [] σ := hl_120_4 FU 0 0 σ h
  exact wpn_Ex (cuts := [4]) monCC (fun _ _ _ _ z => z) 6 0 _ _ _ v
-- TradeTestsModel.riskOf
set_option maxHeartbeats 20000000 in
set_option maxRecDepth 100000 in
theorem hl_161_4 {sc : Nat × (Nat → Int32)} {Q : Int32 → St → Prop} : ∀ (n : Nat) (v1 : Int32) (v2 : Int32) (v3 : Int32) (σ : St), Ap (lp_161_4 n v1 v2 v3 σ) Q → Ex sc CC 1 cd_161 Q 4 [some (.ref 12), some (.int v1), some (.int v2), some (.int v3)] [] σ := by
  intro n
  induction n with
  | zero => intro v1 v2 v3 σ h; exact n_no h
  | succ n ih =>
    intro v1 v2 v3 σ h
    have v : ((σ 12 4) ≤ v3 → Q v2 σ) ∧ (¬ (σ 12 4) ≤ v3 → CC 141 [.ref 12, .int v3] σ (fun r7 σ7 => (¬ r7 = v1 → Ex sc CC 1 cd_161 Q 4 [some (.ref 12), some (.int v1), some (.int (v2 + 0)), some (.int (v3 + 1))] [] σ7) ∧ (r7 = v1 → CC 162 [.ref 12, .int v3] σ7 (fun r8 σ8 => CC 160 [.int r8] σ8 (fun r9 σ9 => Ex sc CC 1 cd_161 Q 4 [some (.ref 12), some (.int v1), some (.int (v2 + r9)), some (.int (v3 + 1))] [] σ9))))) := n_if h (fun h => n_rt h) (fun h => cc_141 (n_bn h (fun r7 σ7 h => n_ne h (fun h => cc_162 (n_bn h (fun r8 σ8 h => cc_160 (n_bn h (fun r9 σ9 h => ih v1 (v2 + r9) (v3 + 1) σ9 h))))) (fun h => ih v1 (v2 + 0) (v3 + 1) σ7 h))))
    exact stw_Ex (cuts := [4]) monCC 20 v
set_option maxHeartbeats 20000000 in
set_option maxRecDepth 100000 in
theorem hp_161 {sc : Nat × (Nat → Int32)} {Q : Int32 → St → Prop} {x1 : Int32} {σ : St} (h : Ap (sp_161 x1 σ) Q) : Ex sc CC 1 cd_161 Q 0 [some (.ref 12), some (.int x1), none, none] [] σ := by
  have v : Ex sc CC 1 cd_161 Q 4 [some (.ref 12), some (.int x1), some (.int 1), some (.int 0)] [] σ := hl_161_4 FU x1 1 0 σ h
  exact wpn_Ex (cuts := [4]) monCC (fun _ _ _ _ z => z) 6 0 _ _ _ v
-- TradeTestsModel.signs
set_option maxHeartbeats 20000000 in
set_option maxRecDepth 100000 in
theorem hp_168 {sc : Nat × (Nat → Int32)} {Q : Int32 → St → Prop} {x1 : Int32} {σ : St} (h : Ap (sp_168 x1 σ) Q) : Ex sc CC 1 cd_168 Q 0 [some (.ref 12), some (.int x1)] [] σ := by
  have v : CC 140 [.ref 12, .int x1] σ (fun r7 σ7 => (r7 = 0 → CC 125 [.ref 12, .int 1] σ7 (fun r8 σ8 => Q r8 σ8)) ∧ (¬ r7 = 0 → CC 162 [.ref 12, .int x1] σ7 (fun r9 σ9 => Q r9 σ9))) := cc_140 (n_bn h (fun r7 σ7 h => n_if h (fun h => cc_125 (n_bn h (fun r8 σ8 h => n_rt h))) (fun h => cc_162 (n_bn h (fun r9 σ9 h => n_rt h)))))
  exact wpn_Ex (cuts := []) monCC (fun _ _ _ _ z => z) 10 0 _ _ _ v
-- TradeTestsModel.points
set_option maxHeartbeats 20000000 in
set_option maxRecDepth 100000 in
theorem hp_174 {sc : Nat × (Nat → Int32)} {Q : Int32 → St → Prop} {x1 : Int32} {σ : St} (h : Ap (sp_174 x1 σ) Q) : Ex sc CC 1 cd_174 Q 0 [some (.ref 12), some (.int x1)] [] σ := by
  have v : CC 140 [.ref 12, .int x1] σ (fun r7 σ7 => (r7 = 0 → CC 125 [.ref 12, .int 1] σ7 (fun r8 σ8 => Q r8 σ8)) ∧ (¬ r7 = 0 → CC 175 [.ref 12, .int x1] σ7 (fun r9 σ9 => Q r9 σ9))) := cc_140 (n_bn h (fun r7 σ7 h => n_if h (fun h => cc_125 (n_bn h (fun r8 σ8 h => n_rt h))) (fun h => cc_175 (n_bn h (fun r9 σ9 h => n_rt h)))))
  exact wpn_Ex (cuts := []) monCC (fun _ _ _ _ z => z) 10 0 _ _ _ v
-- TradeTestsModel.findPoints
set_option maxHeartbeats 20000000 in
set_option maxRecDepth 100000 in
theorem hl_178_2 {sc : Nat × (Nat → Int32)} {Q : Int32 → St → Prop} : ∀ (n : Nat) (v1 : Int32) (σ : St), Ap (lp_178_2 n v1 σ) Q → Ex sc CC 0 cd_178 Q 2 [some (.ref 12), some (.int v1)] [] σ := by
  intro n
  induction n with
  | zero => intro v1 σ h; exact n_no h
  | succ n ih =>
    intro v1 σ h
    have v : ((σ 12 4) ≤ v1 → Q 0 σ) ∧ (¬ (σ 12 4) ≤ v1 → CC 175 [.ref 12, .int v1] σ (fun r3 σ3 => vp_in v1 80 ∧ (Ex sc CC 0 cd_178 Q 2 [some (.ref 12), some (.int (v1 + 1))] [] (up σ3 81 (v1).toNatClampNeg r3)))) := n_if h (fun h => n_rt h) (fun h => cc_175 (n_bn h (fun r3 σ3 h => n_mb h (fun h => ih (v1 + 1) (up σ3 81 (v1).toNatClampNeg r3) h))))
    exact stw_Ex (cuts := [2]) monCC 14 v
set_option maxHeartbeats 20000000 in
set_option maxRecDepth 100000 in
theorem hp_178 {sc : Nat × (Nat → Int32)} {Q : Int32 → St → Prop}  {σ : St} (h : Ap (sp_178  σ) Q) : Ex sc CC 0 cd_178 Q 0 [some (.ref 12), none] [] σ := by
  have v : Ex sc CC 0 cd_178 Q 2 [some (.ref 12), some (.int 0)] [] σ := hl_178_2 FU 0 σ h
  exact wpn_Ex (cuts := [2]) monCC (fun _ _ _ _ z => z) 4 0 _ _ _ v
-- TradeTestsModel.leans
set_option maxHeartbeats 20000000 in
set_option maxRecDepth 100000 in
theorem hl_189_43 {sc : Nat × (Nat → Int32)} {Q : Int32 → St → Prop} : ∀ (n : Nat) (v1 : Int32) (v2 : Int32) (v3 : Int32) (v4 : Int32) (σ : St), Ap (lp_189_43 n v1 v2 v3 v4 σ) Q → Ex sc CC 1 cd_189 Q 43 [some (.ref 12), some (.int v1), some (.int v2), some (.int v3), some (.int v4)] [] σ := by
  intro n
  induction n with
  | zero => intro v1 v2 v3 v4 σ h; exact n_no h
  | succ n ih =>
    intro v1 v2 v3 v4 σ h
    have v : ((σ 12 0) ≤ v4 → Q v3 σ) ∧ (¬ (σ 12 0) ≤ v4 → CC 190 [.ref 12, .int v4, .int v2] σ (fun r13 σ13 => Ex sc CC 1 cd_189 Q 43 [some (.ref 12), some (.int v1), some (.int v2), some (.int (v3 + r13)), some (.int (v4 + 1))] [] σ13)) := n_if h (fun h => n_rt h) (fun h => cc_190 (n_bn h (fun r13 σ13 h => ih v1 v2 (v3 + r13) (v4 + 1) σ13 h)))
    exact stw_Ex (cuts := [43]) monCC 14 v
set_option maxHeartbeats 20000000 in
set_option maxRecDepth 100000 in
theorem hp_189 {sc : Nat × (Nat → Int32)} {Q : Int32 → St → Prop} {x1 x2 : Int32} {σ : St} (h : Ap (sp_189 x1 x2 σ) Q) : Ex sc CC 1 cd_189 Q 0 [some (.ref 12), some (.int x1), some (.int x2), none, none] [] σ := by
  have v : CC 123 [.int x1, .int (-1), .int ((σ 12 0) - 1)] σ (fun r14 σ14 => (r14 = 0 → CC 125 [.ref 12, .int 1] σ14 (fun r15 σ15 => Q r15 σ15)) ∧ (¬ r14 = 0 → CC 124 [.int x2] σ14 (fun r16 σ16 => (¬ r16 = 0 → (x1 < 0 → Ex sc CC 1 cd_189 Q 43 [some (.ref 12), some (.int x1), some (.int x2), some (.int 0), some (.int 0)] [] σ16) ∧ (¬ x1 < 0 → CC 190 [.ref 12, .int x1, .int x2] σ16 (fun r17 σ17 => Q r17 σ17))) ∧ (r16 = 0 → CC 125 [.ref 12, .int 1] σ16 (fun r18 σ18 => Q r18 σ18))))) := cc_123 (n_bn h (fun r14 σ14 h => n_if h (fun h => cc_125 (n_bn h (fun r15 σ15 h => n_rt h))) (fun h => cc_124 (n_bn h (fun r16 σ16 h => n_ne h (fun h => cc_125 (n_bn h (fun r18 σ18 h => n_rt h))) (fun h => n_if h (fun h => hl_189_43 FU x1 x2 0 0 σ16 h) (fun h => cc_190 (n_bn h (fun r17 σ17 h => n_rt h)))))))))
  exact wpn_Ex (cuts := [43]) monCC (fun _ _ _ _ z => z) 19 0 _ _ _ v
-- TradeTestsModel.count
set_option maxHeartbeats 20000000 in
set_option maxRecDepth 100000 in
theorem hl_193_112 {sc : Nat × (Nat → Int32)} {Q : Int32 → St → Prop} : ∀ (n : Nat) (v1 : Int32) (v2 : Int32) (v3 : Int32) (σ : St), Ap (lp_193_112 n v1 v2 v3 σ) Q → Ex sc CC 1 cd_193 Q 112 [some (.ref 12), some (.int v1), some (.int v2), some (.int v3)] [] σ := by
  intro n
  induction n with
  | zero => intro v1 v2 v3 σ h; exact n_no h
  | succ n ih =>
    intro v1 v2 v3 σ h
    have v : ((σ 12 4) ≤ v3 → Q v2 σ) ∧ (¬ (σ 12 4) ≤ v3 → CC 162 [.ref 12, .int v3] σ (fun r5 σ5 => (r5 ≤ 0 → Ex sc CC 1 cd_193 Q 112 [some (.ref 12), some (.int v1), some (.int (v2 + 0)), some (.int (v3 + 1))] [] σ5) ∧ (¬ r5 ≤ 0 → Ex sc CC 1 cd_193 Q 112 [some (.ref 12), some (.int v1), some (.int (v2 + 1)), some (.int (v3 + 1))] [] σ5))) := n_if h (fun h => n_rt h) (fun h => cc_162 (n_bn h (fun r5 σ5 h => n_if h (fun h => ih v1 (v2 + 0) (v3 + 1) σ5 h) (fun h => ih v1 (v2 + 1) (v3 + 1) σ5 h))))
    exact stw_Ex (cuts := [112]) monCC 16 v
set_option maxHeartbeats 20000000 in
set_option maxRecDepth 100000 in
theorem hp_193 {sc : Nat × (Nat → Int32)} {Q : Int32 → St → Prop} {x1 : Int32} {σ : St} (h : Ap (sp_193 x1 σ) Q) : Ex sc CC 1 cd_193 Q 0 [some (.ref 12), some (.int x1), none, none] [] σ := by
  have v : (x1 = 0 → Q (σ 12 0) σ) ∧ (¬ x1 = 0 → (x1 = 1 → Q (σ 12 1) σ) ∧ (¬ x1 = 1 → (x1 = 2 → Q (σ 12 2) σ) ∧ (¬ x1 = 2 → (x1 = 3 → Q (σ 12 4) σ) ∧ (¬ x1 = 3 → (x1 = 4 → Q (σ 12 5) σ) ∧ (¬ x1 = 4 → (x1 = 5 → Q (σ 12 6) σ) ∧ (¬ x1 = 5 → (x1 = 6 → Q (σ 12 7) σ) ∧ (¬ x1 = 6 → (x1 = 7 → Q (σ 12 8) σ) ∧ (¬ x1 = 7 → (x1 = 8 → Q (σ 12 9) σ) ∧ (¬ x1 = 8 → (x1 = 9 → Q (σ 12 10) σ) ∧ (¬ x1 = 9 → (x1 = 10 → Ex sc CC 1 cd_193 Q 112 [some (.ref 12), some (.int x1), some (.int 0), some (.int 0)] [] σ) ∧ (¬ x1 = 10 → CC 125 [.ref 12, .int 1] σ (fun r6 σ6 => Q r6 σ6)))))))))))) := n_if h (fun h => n_rt h) (fun h => n_if h (fun h => n_rt h) (fun h => n_if h (fun h => n_rt h) (fun h => n_if h (fun h => n_rt h) (fun h => n_if h (fun h => n_rt h) (fun h => n_if h (fun h => n_rt h) (fun h => n_if h (fun h => n_rt h) (fun h => n_if h (fun h => n_rt h) (fun h => n_if h (fun h => n_rt h) (fun h => n_if h (fun h => n_rt h) (fun h => n_if h (fun h => hl_193_112 FU x1 0 0 σ h) (fun h => cc_125 (n_bn h (fun r6 σ6 h => n_rt h)))))))))))))
  exact wpn_Ex (cuts := [112]) monCC (fun _ _ _ _ z => z) 9 0 _ _ _ v
-- TradeTests$Texts.takeTape
set_option maxHeartbeats 20000000 in
set_option maxRecDepth 100000 in
theorem hp_29 {sc : Nat × (Nat → Int32)} {Q : Int32 → St → Prop} {x1 : Int32} {σ : St} (h : Ap (sp_29 x1 σ) Q) : Ex sc CC 1 cd_29 Q 0 [some (.ref 4), some (.int x1), none] [] σ := by
  have v : CC 30 [.ref 4] σ (fun r5 σ5 => CC 31 [.ref 4] σ5 (fun r6 σ6 => (¬ r6 = 0 → vp_in (σ6 4 7) 6 ∧ (Q (-1) (up (up (up σ6 4 1 0) 39 (σ6 4 7).toNatClampNeg x1) 4 7 ((σ6 4 7) + 1)))) ∧ (r6 = 0 → Q (σ6 4 2) (up σ6 4 1 0)))) := cc_30 (n_bn h (fun r5 σ5 h => cc_31 (n_bn h (fun r6 σ6 h => n_ne h (fun h => n_rt h) (fun h => n_mb h (fun h => n_rt h))))))
  exact wpn_Ex (cuts := []) monCC (fun _ _ _ _ z => z) 25 0 _ _ _ v
-- TradeTests$Plan.riskOf
set_option maxHeartbeats 20000000 in
set_option maxRecDepth 100000 in
theorem hp_48 {sc : Nat × (Nat → Int32)} {Q : Int32 → St → Prop} {x1 : Int32} {σ : St} (h : Ap (sp_48 x1 σ) Q) : Ex sc CC 1 cd_48 Q 0 [some (.ref 11), some (.int x1)] [] σ := by
  have v : CC 49 [.ref 11, .int x1] σ (fun r3 σ3 => Q (σ3 11 6) σ3) := cc_49 (n_bn h (fun r3 σ3 h => n_rt h))
  exact wpn_Ex (cuts := []) monCC (fun _ _ _ _ z => z) 7 0 _ _ _ v
-- TradeTests$Penalties.ofTester
set_option maxHeartbeats 20000000 in
set_option maxRecDepth 100000 in
theorem hp_88 {sc : Nat × (Nat → Int32)} {Q : Int32 → St → Prop} {x1 x2 : Int32} {σ : St} (h : Ap (sp_88 x1 x2 σ) Q) : Ex sc CC 1 cd_88 Q 0 [some (.ref 10), some (.int x1), some (.int x2)] [] σ := by
  have v : CC 89 [.ref 10, .int x1] σ (fun r5 σ5 => CC 90 [.ref 10, .int x2] σ5 (fun r6 σ6 => Q r6 σ6)) := cc_89 (n_bn h (fun r5 σ5 h => cc_90 (n_bn h (fun r6 σ6 h => n_rt h))))
  exact wpn_Ex (cuts := []) monCC (fun _ _ _ _ z => z) 8 0 _ _ _ v
-- TradeTests$Penalties.isBanned
set_option maxHeartbeats 20000000 in
set_option maxRecDepth 100000 in
theorem hl_92_35 {sc : Nat × (Nat → Int32)} {Q : Int32 → St → Prop} : ∀ (n : Nat) (v1 : Int32) (v2 : Int32) (v3 : Int32) (v4 : Int32) (σ : St), Ap (lp_92_35 n v1 v2 v3 v4 σ) Q → Ex sc CC 2 cd_92 Q 35 [some (.ref 10), some (.int v1), some (.int v2), some (.int v3), some (.int v4), none] [] σ := by
  intro n
  induction n with
  | zero => intro v1 v2 v3 v4 σ h; exact n_no h
  | succ n ih =>
    intro v1 v2 v3 v4 σ h
    have v : ((σ 3 14) ≤ v4 → ((0 : Int32) = 0 ∨ (0 : Int32) = 1) ∧ Q 0 σ) ∧ (¬ (σ 3 14) ≤ v4 → vp_in v4 80 ∧ (((σ 26 (v4).toNatClampNeg) ≤ v3 → ((0 : Int32) = 0 → Ex sc CC 2 cd_92 Q 35 [some (.ref 10), some (.int v1), some (.int v2), some (.int v3), some (.int (v4 + 1)), some (.int 0)] [] σ) ∧ (¬ (0 : Int32) = 0 → vp_in v4 80 ∧ (((σ 47 (v4).toNatClampNeg) ≤ 0 → Ex sc CC 2 cd_92 Q 35 [some (.ref 10), some (.int v1), some (.int v2), some (.int v3), some (.int (v4 + 1)), some (.int 0)] [] σ) ∧ (¬ (σ 47 (v4).toNatClampNeg) ≤ 0 → vp_in v4 80 ∧ (CC 90 [.ref 10, .int (σ 26 (v4).toNatClampNeg)] σ (fun r11 σ11 => vp_in 2 3 ∧ ((r11 < (σ11 46 (2 : Int32).toNatClampNeg) → Ex sc CC 2 cd_92 Q 35 [some (.ref 10), some (.int v1), some (.int v2), some (.int v3), some (.int (v4 + 1)), some (.int 0)] [] σ11) ∧ (¬ r11 < (σ11 46 (2 : Int32).toNatClampNeg) → ((1 : Int32) = 0 ∨ (1 : Int32) = 1) ∧ Q 1 σ11)))))))) ∧ (¬ (σ 26 (v4).toNatClampNeg) ≤ v3 → vp_in v4 80 ∧ ((v2 < (σ 26 (v4).toNatClampNeg) → ((0 : Int32) = 0 → Ex sc CC 2 cd_92 Q 35 [some (.ref 10), some (.int v1), some (.int v2), some (.int v3), some (.int (v4 + 1)), some (.int 0)] [] σ) ∧ (¬ (0 : Int32) = 0 → vp_in v4 80 ∧ (((σ 47 (v4).toNatClampNeg) ≤ 0 → Ex sc CC 2 cd_92 Q 35 [some (.ref 10), some (.int v1), some (.int v2), some (.int v3), some (.int (v4 + 1)), some (.int 0)] [] σ) ∧ (¬ (σ 47 (v4).toNatClampNeg) ≤ 0 → vp_in v4 80 ∧ (CC 90 [.ref 10, .int (σ 26 (v4).toNatClampNeg)] σ (fun r12 σ12 => vp_in 2 3 ∧ ((r12 < (σ12 46 (2 : Int32).toNatClampNeg) → Ex sc CC 2 cd_92 Q 35 [some (.ref 10), some (.int v1), some (.int v2), some (.int v3), some (.int (v4 + 1)), some (.int 0)] [] σ12) ∧ (¬ r12 < (σ12 46 (2 : Int32).toNatClampNeg) → ((1 : Int32) = 0 ∨ (1 : Int32) = 1) ∧ Q 1 σ12)))))))) ∧ (¬ v2 < (σ 26 (v4).toNatClampNeg) → ((1 : Int32) = 0 → Ex sc CC 2 cd_92 Q 35 [some (.ref 10), some (.int v1), some (.int v2), some (.int v3), some (.int (v4 + 1)), some (.int 1)] [] σ) ∧ (¬ (1 : Int32) = 0 → vp_in v4 80 ∧ (((σ 47 (v4).toNatClampNeg) ≤ 0 → Ex sc CC 2 cd_92 Q 35 [some (.ref 10), some (.int v1), some (.int v2), some (.int v3), some (.int (v4 + 1)), some (.int 1)] [] σ) ∧ (¬ (σ 47 (v4).toNatClampNeg) ≤ 0 → vp_in v4 80 ∧ (CC 90 [.ref 10, .int (σ 26 (v4).toNatClampNeg)] σ (fun r13 σ13 => vp_in 2 3 ∧ ((r13 < (σ13 46 (2 : Int32).toNatClampNeg) → Ex sc CC 2 cd_92 Q 35 [some (.ref 10), some (.int v1), some (.int v2), some (.int v3), some (.int (v4 + 1)), some (.int 1)] [] σ13) ∧ (¬ r13 < (σ13 46 (2 : Int32).toNatClampNeg) → ((1 : Int32) = 0 ∨ (1 : Int32) = 1) ∧ Q 1 σ13)))))))))))) := n_if h (fun h => n_rb h) (fun h => n_mb h (fun h => n_if h (fun h => n_if h (fun h => Ex_fg [true, true, true, true, true, false] (ih v1 v2 v3 (v4 + 1) σ h)) (fun h => n_mb h (fun h => n_if h (fun h => Ex_fg [true, true, true, true, true, false] (ih v1 v2 v3 (v4 + 1) σ h)) (fun h => n_mb h (fun h => cc_90 (n_bn h (fun r11 σ11 h => n_mb h (fun h => n_if h (fun h => Ex_fg [true, true, true, true, true, false] (ih v1 v2 v3 (v4 + 1) σ11 h)) (fun h => n_rb h))))))))) (fun h => n_mb h (fun h => n_if h (fun h => n_if h (fun h => Ex_fg [true, true, true, true, true, false] (ih v1 v2 v3 (v4 + 1) σ h)) (fun h => n_mb h (fun h => n_if h (fun h => Ex_fg [true, true, true, true, true, false] (ih v1 v2 v3 (v4 + 1) σ h)) (fun h => n_mb h (fun h => cc_90 (n_bn h (fun r12 σ12 h => n_mb h (fun h => n_if h (fun h => Ex_fg [true, true, true, true, true, false] (ih v1 v2 v3 (v4 + 1) σ12 h)) (fun h => n_rb h))))))))) (fun h => n_if h (fun h => Ex_fg [true, true, true, true, true, false] (ih v1 v2 v3 (v4 + 1) σ h)) (fun h => n_mb h (fun h => n_if h (fun h => Ex_fg [true, true, true, true, true, false] (ih v1 v2 v3 (v4 + 1) σ h)) (fun h => n_mb h (fun h => cc_90 (n_bn h (fun r13 σ13 h => n_mb h (fun h => n_if h (fun h => Ex_fg [true, true, true, true, true, false] (ih v1 v2 v3 (v4 + 1) σ13 h)) (fun h => n_rb h)))))))))))))
    exact stw_Ex (cuts := [35]) monCC 44 v
set_option maxHeartbeats 20000000 in
set_option maxRecDepth 100000 in
theorem hp_92 {sc : Nat × (Nat → Int32)} {Q : Int32 → St → Prop} {x1 x2 : Int32} {σ : St} (h : Ap (sp_92 x1 x2 σ) Q) : Ex sc CC 2 cd_92 Q 0 [some (.ref 10), some (.int x1), some (.int x2), none, none, none] [] σ := by
  have v : CC 89 [.ref 10, .int x1] σ (fun r14 σ14 => vp_in 1 3 ∧ (CC 90 [.ref 10, .int ((x2 - (σ14 46 (1 : Int32).toNatClampNeg)) + 1)] σ14 (fun r15 σ15 => vp_in 2 3 ∧ ((r15 < (σ15 46 (2 : Int32).toNatClampNeg) → Ex sc CC 2 cd_92 Q 35 [some (.ref 10), some (.int x1), some (.int x2), some (.int ((x2 - (σ14 46 (1 : Int32).toNatClampNeg)) + 1)), some (.int 0), none] [] σ15) ∧ (¬ r15 < (σ15 46 (2 : Int32).toNatClampNeg) → ((1 : Int32) = 0 ∨ (1 : Int32) = 1) ∧ Q 1 σ15))))) := cc_89 (n_bn h (fun r14 σ14 h => n_mb h (fun h => cc_90 (n_bn h (fun r15 σ15 h => n_mb h (fun h => n_if h (fun h => hl_92_35 FU x1 x2 ((x2 - (σ14 46 (1 : Int32).toNatClampNeg)) + 1) 0 σ15 h) (fun h => n_rb h)))))))
  exact wpn_Ex (cuts := [35]) monCC (fun _ _ _ _ z => z) 24 0 _ _ _ v
-- TradeTests$Plan.worthOf
set_option maxHeartbeats 20000000 in
set_option maxRecDepth 100000 in
theorem hp_98 {sc : Nat × (Nat → Int32)} {Q : Int32 → St → Prop} {x1 x2 : Int32} {σ : St} (h : Ap (sp_98 x1 x2 σ) Q) : Ex sc CC 1 cd_98 Q 0 [some (.ref 11), some (.int x1), some (.int x2)] [] σ := by
  have v : CC 49 [.ref 11, .int x2] σ (fun r5 σ5 => CC 99 [.ref 11, .int x1] σ5 (fun r6 σ6 => Q ((σ5 11 6) * r6) σ6)) := cc_49 (n_bn h (fun r5 σ5 h => cc_99 (n_bn h (fun r6 σ6 h => n_rt h))))
  exact wpn_Ex (cuts := []) monCC (fun _ _ _ _ z => z) 11 0 _ _ _ v
-- TradeTests$Plan.fillWorths
set_option maxHeartbeats 20000000 in
set_option maxRecDepth 100000 in
theorem hl_101_20 {sc : Nat × (Nat → Int32)} {Q : Int32 → St → Prop} (ko : Int32 → St → MR) (hko : ∀ (v1 : Int32) (σ : St), Ap (ko v1 σ) Q → Ex sc CC 0 cd_101 Q 2 [some (.ref 11), some (.int v1), none] [] σ) : ∀ (n : Nat) (v1 : Int32) (v2 : Int32) (σ : St), Ap (lp_101_20 ko n v1 v2 σ) Q → Ex sc CC 0 cd_101 Q 20 [some (.ref 11), some (.int v1), some (.int v2)] [] σ := by
  intro n
  induction n with
  | zero => intro v1 v2 σ h; exact n_no h
  | succ n ih =>
    intro v1 v2 σ h
    have v : ((σ 9 3) ≤ v2 → Ex sc CC 0 cd_101 Q 2 [some (.ref 11), some (.int (v1 + 1)), some (.int v2)] [] σ) ∧ (¬ (σ 9 3) ≤ v2 → CC 99 [.ref 11, .int v2] σ (fun r5 σ5 => vp_in ((v2 * 6) + v1) 36 ∧ (Ex sc CC 0 cd_101 Q 20 [some (.ref 11), some (.int v1), some (.int (v2 + 1))] [] (up σ5 48 ((v2 * 6) + v1).toNatClampNeg ((σ 11 6) * r5))))) := n_if h (fun h => Ex_fg [true, true, false] (hko (v1 + 1) σ h)) (fun h => cc_99 (n_bn h (fun r5 σ5 h => n_mb h (fun h => ih v1 (v2 + 1) (up σ5 48 ((v2 * 6) + v1).toNatClampNeg ((σ 11 6) * r5)) h))))
    exact stw_Ex (cuts := [2, 20]) monCC 22 v
set_option maxHeartbeats 20000000 in
set_option maxRecDepth 100000 in
theorem hl_101_2 {sc : Nat × (Nat → Int32)} {Q : Int32 → St → Prop} : ∀ (n : Nat) (v1 : Int32) (σ : St), Ap (lp_101_2 n v1 σ) Q → Ex sc CC 0 cd_101 Q 2 [some (.ref 11), some (.int v1), none] [] σ := by
  intro n
  induction n with
  | zero => intro v1 σ h; exact n_no h
  | succ n ih =>
    intro v1 σ h
    have v : ((σ 2 2) ≤ v1 → Q 0 σ) ∧ (¬ (σ 2 2) ≤ v1 → CC 49 [.ref 11, .int v1] σ (fun r6 σ6 => Ex sc CC 0 cd_101 Q 20 [some (.ref 11), some (.int v1), some (.int 0)] [] σ6)) := n_if h (fun h => n_rt h) (fun h => cc_49 (n_bn h (fun r6 σ6 h => hl_101_20 (fun v1 σ => lp_101_2 n v1 σ) ih FU v1 0 σ6 h)))
    exact stw_Ex (cuts := [2, 20]) monCC 11 v
set_option maxHeartbeats 20000000 in
set_option maxRecDepth 100000 in
theorem hp_101 {sc : Nat × (Nat → Int32)} {Q : Int32 → St → Prop}  {σ : St} (h : Ap (sp_101  σ) Q) : Ex sc CC 0 cd_101 Q 0 [some (.ref 11), none, none] [] σ := by
  have v : Ex sc CC 0 cd_101 Q 2 [some (.ref 11), some (.int 0), none] [] σ := hl_101_2 FU 0 σ h
  exact wpn_Ex (cuts := [2, 20]) monCC (fun _ _ _ _ z => z) 4 0 _ _ _ v
-- TradeTests.count
set_option maxHeartbeats 20000000 in
set_option maxRecDepth 100000 in
theorem hp_119 {sc : Nat × (Nat → Int32)} {Q : Int32 → St → Prop} {x1 : Int32} {σ : St} (h : Ap (sp_119 x1 σ) Q) : Ex sc CC 1 cd_119 Q 0 [some (.ref 0), some (.int x1)] [] σ := by
  have v : (x1 = 0 → Q (σ 1 3) σ) ∧ (¬ x1 = 0 → (x1 = 1 → Q (σ 2 2) σ) ∧ (¬ x1 = 1 → (x1 = 2 → Q (σ 2 4) σ) ∧ (¬ x1 = 2 → (x1 = 3 → Q (σ 3 14) σ) ∧ (¬ x1 = 3 → (x1 = 4 → Q (σ 4 7) σ) ∧ (¬ x1 = 4 → (x1 = 5 → Q (σ 9 3) σ) ∧ (¬ x1 = 5 → (x1 = 6 → Q (σ 9 4) σ) ∧ (¬ x1 = 6 → (x1 = 7 → Q (σ 3 15) σ) ∧ (¬ x1 = 7 → (x1 = 8 → Q (σ 4 1) σ) ∧ (¬ x1 = 8 → (x1 = 9 → Q (σ 0 12) σ) ∧ (¬ x1 = 9 → (x1 = 10 → CC 120 [.ref 6] σ (fun r6 σ6 => Q r6 σ6)) ∧ (¬ x1 = 10 → CC 2 [.ref 0, .int 1] σ (fun r5 σ5 => Q r5 σ5)))))))))))) := n_if h (fun h => n_rt h) (fun h => n_if h (fun h => n_rt h) (fun h => n_if h (fun h => n_rt h) (fun h => n_if h (fun h => n_rt h) (fun h => n_if h (fun h => n_rt h) (fun h => n_if h (fun h => n_rt h) (fun h => n_if h (fun h => n_rt h) (fun h => n_if h (fun h => n_rt h) (fun h => n_if h (fun h => n_rt h) (fun h => n_if h (fun h => n_rt h) (fun h => n_if h (fun h => cc_120 (n_bn h (fun r6 σ6 h => n_rt h))) (fun h => cc_2 (n_bn h (fun r5 σ5 h => n_rt h)))))))))))))
  exact wpn_Ex (cuts := []) monCC (fun _ _ _ _ z => z) 7 0 _ _ _ v
-- TradeTestsModel.rate
set_option maxHeartbeats 20000000 in
set_option maxRecDepth 100000 in
theorem hl_158_38 {sc : Nat × (Nat → Int32)} {Q : Int32 → St → Prop} : ∀ (n : Nat) (v1 : Int32) (v2 : Int32) (v3 : Int32) (v4 : Int32) (v5 : Int32) (v6 : Int32) (v7 : Int32) (σ : St), Ap (lp_158_38 n v1 v2 v3 v4 v5 v6 v7 σ) Q → Ex sc CC 1 cd_158 Q 38 [some (.ref 12), some (.int v1), some (.int v2), some (.int v3), some (.int v4), some (.int v5), some (.int v6), some (.int v7), none] [] σ := by
  intro n
  induction n with
  | zero => intro v1 v2 v3 v4 v5 v6 v7 σ h; exact n_no h
  | succ n ih =>
    intro v1 v2 v3 v4 v5 v6 v7 σ h
    have v : ((σ 12 4) ≤ v7 → (v2 = 0 → Q v3 σ) ∧ (¬ v2 = 0 → (v2 = 1 → Q v4 σ) ∧ (¬ v2 = 1 → (v2 = 2 → Q v5 σ) ∧ (¬ v2 = 2 → (v2 = 3 → Q v6 σ) ∧ (¬ v2 = 3 → (v2 = 4 → Q ((((Int32.toInt64 1000) * v4.toInt64) - v5.toInt64).toInt32) σ) ∧ (¬ v2 = 4 → (v2 = 5 → CC 159 [.ref 12] σ (fun r20 σ20 => (0 < (lg_cmp ((((Int32.toInt64 1000) * v4.toInt64) - v5.toInt64) * (((Int32.toInt64 1000) * v4.toInt64) - v5.toInt64)) (v6.toInt64 * (((4 : Int32) + r20).toInt64))) → ((lg_cmp (((Int32.toInt64 1000) * v4.toInt64) - v5.toInt64) (Int32.toInt64 0)) ≤ 0 → Q 2 σ20) ∧ (¬ (lg_cmp (((Int32.toInt64 1000) * v4.toInt64) - v5.toInt64) (Int32.toInt64 0)) ≤ 0 → Q 1 σ20)) ∧ (¬ 0 < (lg_cmp ((((Int32.toInt64 1000) * v4.toInt64) - v5.toInt64) * (((Int32.toInt64 1000) * v4.toInt64) - v5.toInt64)) (v6.toInt64 * (((4 : Int32) + r20).toInt64))) → Q 0 σ20))) ∧ (¬ v2 = 5 → CC 161 [.ref 12, .int v1] σ (fun r19 σ19 => Q r19 σ19)))))))) ∧ (¬ (σ 12 4) ≤ v7 → CC 141 [.ref 12, .int v7] σ (fun r21 σ21 => (r21 = v1 → CC 157 [.ref 12, .int v7] σ21 (fun r22 σ22 => CC 156 [.ref 12, .int r22] σ22 (fun r23 σ23 => vp_in v7 80 ∧ (((σ23 70 (v7).toNatClampNeg) = 0 → Ex sc CC 1 cd_158 Q 38 [some (.ref 12), some (.int v1), some (.int v2), some (.int (v3 + 1)), some (.int (v4 + 0)), some (.int (v5 + r23)), some (.int (v6 + (r23 * ((1000 : Int32) - r23)))), some (.int (v7 + 1)), some (.int r23)] [] σ23) ∧ (¬ (σ23 70 (v7).toNatClampNeg) = 0 → Ex sc CC 1 cd_158 Q 38 [some (.ref 12), some (.int v1), some (.int v2), some (.int (v3 + 1)), some (.int (v4 + 1)), some (.int (v5 + r23)), some (.int (v6 + (r23 * ((1000 : Int32) - r23)))), some (.int (v7 + 1)), some (.int r23)] [] σ23))))) ∧ (¬ r21 = v1 → Ex sc CC 1 cd_158 Q 38 [some (.ref 12), some (.int v1), some (.int v2), some (.int v3), some (.int v4), some (.int v5), some (.int v6), some (.int (v7 + 1)), none] [] σ21))) := n_if h (fun h => n_if h (fun h => n_rt h) (fun h => n_if h (fun h => n_rt h) (fun h => n_if h (fun h => n_rt h) (fun h => n_if h (fun h => n_rt h) (fun h => n_if h (fun h => n_rt h) (fun h => n_if h (fun h => cc_159 (n_bn h (fun r20 σ20 h => n_if h (fun h => n_if h (fun h => n_rt h) (fun h => n_rt h)) (fun h => n_rt h)))) (fun h => cc_161 (n_bn h (fun r19 σ19 h => n_rt h))))))))) (fun h => cc_141 (n_bn h (fun r21 σ21 h => n_if h (fun h => cc_157 (n_bn h (fun r22 σ22 h => cc_156 (n_bn h (fun r23 σ23 h => n_mb h (fun h => n_if h (fun h => Ex_fg [true, true, true, true, true, true, true, true, false] (ih v1 v2 (v3 + 1) (v4 + 0) (v5 + r23) (v6 + (r23 * ((1000 : Int32) - r23))) (v7 + 1) σ23 h)) (fun h => Ex_fg [true, true, true, true, true, true, true, true, false] (ih v1 v2 (v3 + 1) (v4 + 1) (v5 + r23) (v6 + (r23 * ((1000 : Int32) - r23))) (v7 + 1) σ23 h)))))))) (fun h => ih v1 v2 v3 v4 v5 v6 (v7 + 1) σ21 h))))
    exact stw_Ex (cuts := [38]) monCC 41 v
set_option maxHeartbeats 20000000 in
set_option maxRecDepth 100000 in
theorem hp_158 {sc : Nat × (Nat → Int32)} {Q : Int32 → St → Prop} {x1 x2 : Int32} {σ : St} (h : Ap (sp_158 x1 x2 σ) Q) : Ex sc CC 1 cd_158 Q 0 [some (.ref 12), some (.int x1), some (.int x2), none, none, none, none, none, none] [] σ := by
  have v : CC 132 [.ref 12, .int x1] σ (fun r24 σ24 => (r24 = 0 → CC 125 [.ref 12, .int 1] σ24 (fun r25 σ25 => Q r25 σ25)) ∧ (¬ r24 = 0 → CC 123 [.int x2, .int 0, .int 6] σ24 (fun r26 σ26 => (¬ r26 = 0 → Ex sc CC 1 cd_158 Q 38 [some (.ref 12), some (.int x1), some (.int x2), some (.int 0), some (.int 0), some (.int 0), some (.int 0), some (.int 0), none] [] σ26) ∧ (r26 = 0 → CC 125 [.ref 12, .int 1] σ26 (fun r27 σ27 => Q r27 σ27))))) := cc_132 (n_bn h (fun r24 σ24 h => n_if h (fun h => cc_125 (n_bn h (fun r25 σ25 h => n_rt h))) (fun h => cc_123 (n_bn h (fun r26 σ26 h => n_ne h (fun h => cc_125 (n_bn h (fun r27 σ27 h => n_rt h))) (fun h => hl_158_38 FU x1 x2 0 0 0 0 0 σ26 h))))))
  exact wpn_Ex (cuts := [38]) monCC (fun _ _ _ _ z => z) 21 0 _ _ _ v
-- TradeTestsModel.sum
set_option maxHeartbeats 20000000 in
set_option maxRecDepth 100000 in
theorem hp_177 {sc : Nat × (Nat → Int32)} {Q : Int32 → St → Prop} {x1 x2 : Int32} {σ : St} (h : Ap (sp_177 x1 x2 σ) Q) : Ex sc CC 1 cd_177 Q 0 [some (.ref 12), some (.int x1), some (.int x2)] [] σ := by
  have v : CC 134 [.ref 12, .int x1] σ (fun r13 σ13 => (r13 = 0 → CC 125 [.ref 12, .int 1] σ13 (fun r14 σ14 => Q r14 σ14)) ∧ (¬ r13 = 0 → CC 124 [.int x2] σ13 (fun r15 σ15 => (¬ r15 = 0 → CC 178 [.ref 12] σ15 (fun r16 σ16 => CC 179 [.ref 12, .int x1, .int x2] σ16 (fun r17 σ17 => Q r17 σ17))) ∧ (r15 = 0 → CC 125 [.ref 12, .int 1] σ15 (fun r18 σ18 => Q r18 σ18))))) := cc_134 (n_bn h (fun r13 σ13 h => n_if h (fun h => cc_125 (n_bn h (fun r14 σ14 h => n_rt h))) (fun h => cc_124 (n_bn h (fun r15 σ15 h => n_ne h (fun h => cc_125 (n_bn h (fun r18 σ18 h => n_rt h))) (fun h => cc_178 (n_bn h (fun r16 σ16 h => cc_179 (n_bn h (fun r17 σ17 h => n_rt h))))))))))
  exact wpn_Ex (cuts := []) monCC (fun _ _ _ _ z => z) 15 0 _ _ _ v
-- TradeTestsModel.banned
set_option maxHeartbeats 20000000 in
set_option maxRecDepth 100000 in
theorem hl_180_27 {sc : Nat × (Nat → Int32)} {Q : Int32 → St → Prop} : ∀ (n : Nat) (v1 : Int32) (v2 : Int32) (v3 : Int32) (σ : St), Ap (lp_180_27 n v1 v2 v3 σ) Q → Ex sc CC 1 cd_180 Q 27 [some (.ref 12), some (.int v1), some (.int v2), some (.int v3)] [] σ := by
  intro n
  induction n with
  | zero => intro v1 v2 v3 σ h; exact n_no h
  | succ n ih =>
    intro v1 v2 v3 σ h
    have v : (v3 ≤ (v2 - (σ 12 12)) → Q 0 σ) ∧ (¬ v3 ≤ (v2 - (σ 12 12)) → (v3 < 0 → Q 0 σ) ∧ (¬ v3 < 0 → CC 179 [.ref 12, .int v1, .int v3] σ (fun r13 σ13 => (r13 < (σ13 12 13) → Ex sc CC 1 cd_180 Q 27 [some (.ref 12), some (.int v1), some (.int v2), some (.int (v3 + (-1)))] [] σ13) ∧ (¬ r13 < (σ13 12 13) → Q 1 σ13)))) := n_if h (fun h => n_rt h) (fun h => n_if h (fun h => n_rt h) (fun h => cc_179 (n_bn h (fun r13 σ13 h => n_if h (fun h => ih v1 v2 (v3 + (-1)) σ13 h) (fun h => n_rt h)))))
    exact stw_Ex (cuts := [27]) monCC 18 v
set_option maxHeartbeats 20000000 in
set_option maxRecDepth 100000 in
theorem hp_180 {sc : Nat × (Nat → Int32)} {Q : Int32 → St → Prop} {x1 x2 : Int32} {σ : St} (h : Ap (sp_180 x1 x2 σ) Q) : Ex sc CC 1 cd_180 Q 0 [some (.ref 12), some (.int x1), some (.int x2), none] [] σ := by
  have v : CC 134 [.ref 12, .int x1] σ (fun r14 σ14 => (r14 = 0 → CC 125 [.ref 12, .int 1] σ14 (fun r15 σ15 => Q r15 σ15)) ∧ (¬ r14 = 0 → CC 124 [.int x2] σ14 (fun r16 σ16 => (¬ r16 = 0 → CC 178 [.ref 12] σ16 (fun r17 σ17 => Ex sc CC 1 cd_180 Q 27 [some (.ref 12), some (.int x1), some (.int x2), some (.int x2)] [] σ17)) ∧ (r16 = 0 → CC 125 [.ref 12, .int 1] σ16 (fun r18 σ18 => Q r18 σ18))))) := cc_134 (n_bn h (fun r14 σ14 h => n_if h (fun h => cc_125 (n_bn h (fun r15 σ15 h => n_rt h))) (fun h => cc_124 (n_bn h (fun r16 σ16 h => n_ne h (fun h => cc_125 (n_bn h (fun r18 σ18 h => n_rt h))) (fun h => cc_178 (n_bn h (fun r17 σ17 h => hl_180_27 FU x1 x2 x2 σ17 h))))))))
  exact wpn_Ex (cuts := [27]) monCC (fun _ _ _ _ z => z) 13 0 _ _ _ v
-- TradeTestsModel.worthOf
set_option maxHeartbeats 20000000 in
set_option maxRecDepth 100000 in
theorem hl_184_5 {sc : Nat × (Nat → Int32)} {Q : Int32 → St → Prop} : ∀ (n : Nat) (v1 : Int32) (v2 : Int32) (v3 : Int32) (v4 : Int32) (σ : St), Ap (lp_184_5 n v1 v2 v3 v4 σ) Q → Ex sc CC 1 cd_184 Q 5 [some (.ref 12), some (.int v1), some (.int v2), some (.int v3), some (.int v4)] [] σ := by
  intro n
  induction n with
  | zero => intro v1 v2 v3 v4 σ h; exact n_no h
  | succ n ih =>
    intro v1 v2 v3 v4 σ h
    have v : ((σ 12 4) ≤ v4 → CC 161 [.ref 12, .int v2] σ (fun r7 σ7 => vp_in v1 6 ∧ (CC 160 [.int ((σ7 77 (v1).toNatClampNeg) &&& (v3 ^^^ (-1)))] σ7 (fun r8 σ8 => Q (r7 * r8) σ8)))) ∧ (¬ (σ 12 4) ≤ v4 → vp_in v4 80 ∧ (((σ 68 (v4).toNatClampNeg) < 0 → Ex sc CC 1 cd_184 Q 5 [some (.ref 12), some (.int v1), some (.int v2), some (.int (v3 ||| 0)), some (.int (v4 + 1))] [] σ) ∧ (¬ (σ 68 (v4).toNatClampNeg) < 0 → CC 141 [.ref 12, .int v4] σ (fun r9 σ9 => (¬ r9 = v2 → Ex sc CC 1 cd_184 Q 5 [some (.ref 12), some (.int v1), some (.int v2), some (.int (v3 ||| 0)), some (.int (v4 + 1))] [] σ9) ∧ (r9 = v2 → vp_in v4 80 ∧ (vp_in (σ9 68 (v4).toNatClampNeg) 6 ∧ (Ex sc CC 1 cd_184 Q 5 [some (.ref 12), some (.int v1), some (.int v2), some (.int (v3 ||| (σ9 77 (σ9 68 (v4).toNatClampNeg).toNatClampNeg))), some (.int (v4 + 1))] [] σ9))))))) := n_if h (fun h => cc_161 (n_bn h (fun r7 σ7 h => n_mb h (fun h => cc_160 (n_bn h (fun r8 σ8 h => n_rt h)))))) (fun h => n_mb h (fun h => n_if h (fun h => ih v1 v2 (v3 ||| 0) (v4 + 1) σ h) (fun h => cc_141 (n_bn h (fun r9 σ9 h => n_ne h (fun h => n_mb h (fun h => n_mb h (fun h => ih v1 v2 (v3 ||| (σ9 77 (σ9 68 (v4).toNatClampNeg).toNatClampNeg)) (v4 + 1) σ9 h))) (fun h => ih v1 v2 (v3 ||| 0) (v4 + 1) σ9 h))))))
    exact stw_Ex (cuts := [5]) monCC 28 v
set_option maxHeartbeats 20000000 in
set_option maxRecDepth 100000 in
theorem hp_184 {sc : Nat × (Nat → Int32)} {Q : Int32 → St → Prop} {x1 x2 : Int32} {σ : St} (h : Ap (sp_184 x1 x2 σ) Q) : Ex sc CC 1 cd_184 Q 0 [some (.ref 12), some (.int x1), some (.int x2), none, none] [] σ := by
  have v : Ex sc CC 1 cd_184 Q 5 [some (.ref 12), some (.int x1), some (.int x2), some (.int 0), some (.int 0)] [] σ := hl_184_5 FU x1 x2 0 0 σ h
  exact wpn_Ex (cuts := [5]) monCC (fun _ _ _ _ z => z) 6 0 _ _ _ v
-- TradeTestsModel.check
set_option maxHeartbeats 20000000 in
set_option maxRecDepth 100000 in
theorem hl_192_29 {sc : Nat × (Nat → Int32)} {Q : Int32 → St → Prop} : ∀ (n : Nat) (v1 : Int32) (v2 : Int32) (v3 : Int32) (σ : St), Ap (lp_192_29 n v1 v2 v3 σ) Q → Ex sc CC 1 cd_192 Q 29 [some (.ref 12), some (.int v1), some (.int v2), some (.int v3)] [] σ := by
  intro n
  induction n with
  | zero => intro v1 v2 v3 σ h; exact n_no h
  | succ n ih =>
    intro v1 v2 v3 σ h
    have v : (v2 ≤ v3 → Q 0 σ) ∧ (¬ v2 ≤ v3 → ((σ 12 2) ≤ v3 → Q ((1 : Int32) + v3) σ) ∧ (¬ (σ 12 2) ≤ v3 → CC 179 [.ref 12, .int v3, .int v1] σ (fun r9 σ9 => vp_in v3 8 ∧ ((r9 = (σ9 79 (v3).toNatClampNeg) → Ex sc CC 1 cd_192 Q 29 [some (.ref 12), some (.int v1), some (.int v2), some (.int (v3 + 1))] [] σ9) ∧ (¬ r9 = (σ9 79 (v3).toNatClampNeg) → Q ((1 : Int32) + v3) σ9))))) := n_if h (fun h => n_rt h) (fun h => n_if h (fun h => n_rt h) (fun h => cc_179 (n_bn h (fun r9 σ9 h => n_mb h (fun h => n_if h (fun h => ih v1 v2 (v3 + 1) σ9 h) (fun h => n_rt h))))))
    exact stw_Ex (cuts := [29]) monCC 20 v
set_option maxHeartbeats 20000000 in
set_option maxRecDepth 100000 in
theorem hp_192 {sc : Nat × (Nat → Int32)} {Q : Int32 → St → Prop} {x1 : Int32} {σ : St} (h : Ap (sp_192 x1 σ) Q) : Ex sc CC 1 cd_192 Q 0 [some (.ref 12), some (.int x1), none, none] [] σ := by
  have v : CC 124 [.int x1] (up σ 12 10 0) (fun r10 σ10 => (¬ r10 = 0 → CC 178 [.ref 12] σ10 (fun r11 σ11 => Ex sc CC 1 cd_192 Q 29 [some (.ref 12), some (.int x1), some (.int (σ 12 10)), some (.int 0)] [] σ11)) ∧ (r10 = 0 → CC 125 [.ref 12, .int 1] σ10 (fun r12 σ12 => Q r12 σ12))) := cc_124 (n_bn h (fun r10 σ10 h => n_ne h (fun h => cc_125 (n_bn h (fun r12 σ12 h => n_rt h))) (fun h => cc_178 (n_bn h (fun r11 σ11 h => hl_192_29 FU x1 (σ 12 10) 0 σ11 h)))))
  exact wpn_Ex (cuts := [29]) monCC (fun _ _ _ _ z => z) 15 0 _ _ _ v
-- TradeTests.text
set_option maxHeartbeats 20000000 in
set_option maxRecDepth 100000 in
theorem hp_28 {sc : Nat × (Nat → Int32)} {Q : Int32 → St → Prop} {x1 : Int32} {σ : St} (h : Ap (sp_28 x1 σ) Q) : Ex sc CC 1 cd_28 Q 0 [some (.ref 0), some (.int x1), none] [] σ := by
  have v : CC 1 [.int x1, .int 10000] σ (fun r9 σ9 => (¬ r9 = 0 → ((σ9 4 7) < 6 → CC 29 [.ref 4, .int x1] σ9 (fun r10 σ10 => (0 ≤ r10 → Q ((-10 : Int32) - r10) σ10) ∧ (¬ 0 ≤ r10 → Q (σ10 4 7) σ10))) ∧ (¬ (σ9 4 7) < 6 → CC 2 [.ref 0, .int 4] σ9 (fun r11 σ11 => Q r11 σ11))) ∧ (r9 = 0 → CC 2 [.ref 0, .int 1] σ9 (fun r12 σ12 => Q r12 σ12))) := cc_1 (n_bn h (fun r9 σ9 h => n_ne h (fun h => cc_2 (n_bn h (fun r12 σ12 h => n_rt h))) (fun h => n_if h (fun h => cc_29 (n_bn h (fun r10 σ10 h => n_if h (fun h => n_rt h) (fun h => n_rt h)))) (fun h => cc_2 (n_bn h (fun r11 σ11 h => n_rt h))))))
  exact wpn_Ex (cuts := []) monCC (fun _ _ _ _ z => z) 22 0 _ _ _ v
-- TradeTests.rate
set_option maxHeartbeats 20000000 in
set_option maxRecDepth 100000 in
theorem hp_47 {sc : Nat × (Nat → Int32)} {Q : Int32 → St → Prop} {x1 x2 : Int32} {σ : St} (h : Ap (sp_47 x1 x2 σ) Q) : Ex sc CC 1 cd_47 Q 0 [some (.ref 0), some (.int x1), some (.int x2)] [] σ := by
  have v : CC 1 [.int x1, .int (σ 2 2)] σ (fun r13 σ13 => (r13 = 0 → CC 2 [.ref 0, .int 1] σ13 (fun r14 σ14 => Q r14 σ14)) ∧ (¬ r13 = 0 → CC 1 [.int x2, .int 7] σ13 (fun r15 σ15 => (¬ r15 = 0 → (¬ x2 = 6 → CC 62 [.ref 7, .int x1, .int x2] σ15 (fun r16 σ16 => Q r16 σ16)) ∧ (x2 = 6 → CC 48 [.ref 11, .int x1] σ15 (fun r17 σ17 => Q r17 σ17))) ∧ (r15 = 0 → CC 2 [.ref 0, .int 1] σ15 (fun r18 σ18 => Q r18 σ18))))) := cc_1 (n_bn h (fun r13 σ13 h => n_if h (fun h => cc_2 (n_bn h (fun r14 σ14 h => n_rt h))) (fun h => cc_1 (n_bn h (fun r15 σ15 h => n_ne h (fun h => cc_2 (n_bn h (fun r18 σ18 h => n_rt h))) (fun h => n_ne h (fun h => cc_48 (n_bn h (fun r17 σ17 h => n_rt h))) (fun h => cc_62 (n_bn h (fun r16 σ16 h => n_rt h)))))))))
  exact wpn_Ex (cuts := []) monCC (fun _ _ _ _ z => z) 20 0 _ _ _ v
-- TradeTests.sum
set_option maxHeartbeats 20000000 in
set_option maxRecDepth 100000 in
theorem hp_87 {sc : Nat × (Nat → Int32)} {Q : Int32 → St → Prop} {x1 x2 : Int32} {σ : St} (h : Ap (sp_87 x1 x2 σ) Q) : Ex sc CC 1 cd_87 Q 0 [some (.ref 0), some (.int x1), some (.int x2)] [] σ := by
  have v : CC 1 [.int x1, .int (σ 2 4)] σ (fun r11 σ11 => (r11 = 0 → CC 2 [.ref 0, .int 1] σ11 (fun r12 σ12 => Q r12 σ12)) ∧ (¬ r11 = 0 → CC 1 [.int x2, .int 10000] σ11 (fun r13 σ13 => (¬ r13 = 0 → CC 88 [.ref 10, .int x1, .int x2] σ13 (fun r14 σ14 => Q r14 σ14)) ∧ (r13 = 0 → CC 2 [.ref 0, .int 1] σ13 (fun r15 σ15 => Q r15 σ15))))) := cc_1 (n_bn h (fun r11 σ11 h => n_if h (fun h => cc_2 (n_bn h (fun r12 σ12 h => n_rt h))) (fun h => cc_1 (n_bn h (fun r13 σ13 h => n_ne h (fun h => cc_2 (n_bn h (fun r15 σ15 h => n_rt h))) (fun h => cc_88 (n_bn h (fun r14 σ14 h => n_rt h))))))))
  exact wpn_Ex (cuts := []) monCC (fun _ _ _ _ z => z) 17 0 _ _ _ v
-- TradeTests.banned
set_option maxHeartbeats 20000000 in
set_option maxRecDepth 100000 in
theorem hp_91 {sc : Nat × (Nat → Int32)} {Q : Int32 → St → Prop} {x1 x2 : Int32} {σ : St} (h : Ap (sp_91 x1 x2 σ) Q) : Ex sc CC 1 cd_91 Q 0 [some (.ref 0), some (.int x1), some (.int x2)] [] σ := by
  have v : CC 1 [.int x1, .int (σ 2 4)] σ (fun r11 σ11 => (r11 = 0 → CC 2 [.ref 0, .int 1] σ11 (fun r12 σ12 => Q r12 σ12)) ∧ (¬ r11 = 0 → CC 1 [.int x2, .int 10000] σ11 (fun r13 σ13 => (¬ r13 = 0 → CC 92 [.ref 10, .int x1, .int x2] σ13 (fun r14 σ14 => (r14 = 0 → Q 0 σ14) ∧ (¬ r14 = 0 → Q 1 σ14))) ∧ (r13 = 0 → CC 2 [.ref 0, .int 1] σ13 (fun r15 σ15 => Q r15 σ15))))) := cc_1 (n_bn h (fun r11 σ11 h => n_if h (fun h => cc_2 (n_bn h (fun r12 σ12 h => n_rt h))) (fun h => cc_1 (n_bn h (fun r13 σ13 h => n_ne h (fun h => cc_2 (n_bn h (fun r15 σ15 h => n_rt h))) (fun h => cc_92 (n_bn h (fun r14 σ14 h => n_if h (fun h => n_rt h) (fun h => n_rt h)))))))))
  exact wpn_Ex (cuts := []) monCC (fun _ _ _ _ z => z) 20 0 _ _ _ v
-- TradeTests.worth
set_option maxHeartbeats 20000000 in
set_option maxRecDepth 100000 in
theorem hp_97 {sc : Nat × (Nat → Int32)} {Q : Int32 → St → Prop} {x1 x2 : Int32} {σ : St} (h : Ap (sp_97 x1 x2 σ) Q) : Ex sc CC 1 cd_97 Q 0 [some (.ref 0), some (.int x1), some (.int x2)] [] σ := by
  have v : CC 1 [.int x1, .int (σ 9 3)] σ (fun r11 σ11 => (r11 = 0 → CC 2 [.ref 0, .int 1] σ11 (fun r12 σ12 => Q r12 σ12)) ∧ (¬ r11 = 0 → CC 1 [.int x2, .int (σ11 2 2)] σ11 (fun r13 σ13 => (¬ r13 = 0 → CC 98 [.ref 11, .int x1, .int x2] σ13 (fun r14 σ14 => Q r14 σ14)) ∧ (r13 = 0 → CC 2 [.ref 0, .int 1] σ13 (fun r15 σ15 => Q r15 σ15))))) := cc_1 (n_bn h (fun r11 σ11 h => n_if h (fun h => cc_2 (n_bn h (fun r12 σ12 h => n_rt h))) (fun h => cc_1 (n_bn h (fun r13 σ13 h => n_ne h (fun h => cc_2 (n_bn h (fun r15 σ15 h => n_rt h))) (fun h => cc_98 (n_bn h (fun r14 σ14 h => n_rt h))))))))
  exact wpn_Ex (cuts := []) monCC (fun _ _ _ _ z => z) 19 0 _ _ _ v
-- TradeTests.plan
set_option maxHeartbeats 20000000 in
set_option maxRecDepth 100000 in
theorem hp_100 {sc : Nat × (Nat → Int32)} {Q : Int32 → St → Prop} {x1 : Int32} {σ : St} (h : Ap (sp_100 x1 σ) Q) : Ex sc CC 1 cd_100 Q 0 [some (.ref 0), some (.int x1), none] [] σ := by
  have v : (x1 < (-1) → CC 2 [.ref 0, .int 1] σ (fun r15 σ15 => Q r15 σ15)) ∧ (¬ x1 < (-1) → (x1 < (σ 9 3) → CC 101 [.ref 11] σ (fun r16 σ16 => CC 102 [.ref 11] σ16 (fun r17 σ17 => (¬ x1 = (-1) → CC 108 [.ref 11, .int x1] σ17 (fun r18 σ18 => (0 ≤ r18 → Q r18 σ18) ∧ (¬ 0 ≤ r18 → CC 2 [.ref 0, .int 2] σ18 (fun r19 σ19 => Q r19 σ19)))) ∧ (x1 = (-1) → CC 107 [.ref 11] σ17 (fun r20 σ20 => Q r20 σ20))))) ∧ (¬ x1 < (σ 9 3) → CC 2 [.ref 0, .int 1] σ (fun r21 σ21 => Q r21 σ21))) := n_if h (fun h => cc_2 (n_bn h (fun r15 σ15 h => n_rt h))) (fun h => n_if h (fun h => cc_101 (n_bn h (fun r16 σ16 h => cc_102 (n_bn h (fun r17 σ17 h => n_ne h (fun h => cc_107 (n_bn h (fun r20 σ20 h => n_rt h))) (fun h => cc_108 (n_bn h (fun r18 σ18 h => n_if h (fun h => n_rt h) (fun h => cc_2 (n_bn h (fun r19 σ19 h => n_rt h))))))))))) (fun h => cc_2 (n_bn h (fun r21 σ21 h => n_rt h))))
  exact wpn_Ex (cuts := []) monCC (fun _ _ _ _ z => z) 30 0 _ _ _ v
-- TradeTests.check
set_option maxHeartbeats 20000000 in
set_option maxRecDepth 100000 in
theorem hl_118_28 {sc : Nat × (Nat → Int32)} {Q : Int32 → St → Prop} : ∀ (n : Nat) (v1 : Int32) (v2 : Int32) (v3 : Int32) (σ : St), Ap (lp_118_28 n v1 v2 v3 σ) Q → Ex sc CC 1 cd_118 Q 28 [some (.ref 0), some (.int v1), some (.int v2), some (.int v3)] [] σ := by
  intro n
  induction n with
  | zero => intro v1 v2 v3 σ h; exact n_no h
  | succ n ih =>
    intro v1 v2 v3 σ h
    have v : (v2 ≤ v3 → Q 0 σ) ∧ (¬ v2 ≤ v3 → ((σ 2 4) ≤ v3 → Q ((1 : Int32) + v3) σ) ∧ (¬ (σ 2 4) ≤ v3 → vp_in v3 8 ∧ (CC 88 [.ref 10, .int v3, .int v1] σ (fun r7 σ7 => ((σ 13 (v3).toNatClampNeg) = r7 → Ex sc CC 1 cd_118 Q 28 [some (.ref 0), some (.int v1), some (.int v2), some (.int (v3 + 1))] [] σ7) ∧ (¬ (σ 13 (v3).toNatClampNeg) = r7 → Q ((1 : Int32) + v3) σ7))))) := n_if h (fun h => n_rt h) (fun h => n_if h (fun h => n_rt h) (fun h => n_mb h (fun h => cc_88 (n_bn h (fun r7 σ7 h => n_if h (fun h => ih v1 v2 (v3 + 1) σ7 h) (fun h => n_rt h))))))
    exact stw_Ex (cuts := [28]) monCC 22 v
set_option maxHeartbeats 20000000 in
set_option maxRecDepth 100000 in
theorem hp_118 {sc : Nat × (Nat → Int32)} {Q : Int32 → St → Prop} {x1 : Int32} {σ : St} (h : Ap (sp_118 x1 σ) Q) : Ex sc CC 1 cd_118 Q 0 [some (.ref 0), some (.int x1), none, none] [] σ := by
  have v : CC 1 [.int x1, .int 10000] (up σ 0 12 0) (fun r8 σ8 => (¬ r8 = 0 → Ex sc CC 1 cd_118 Q 28 [some (.ref 0), some (.int x1), some (.int (σ 0 12)), some (.int 0)] [] σ8) ∧ (r8 = 0 → CC 2 [.ref 0, .int 1] σ8 (fun r9 σ9 => Q r9 σ9))) := cc_1 (n_bn h (fun r8 σ8 h => n_ne h (fun h => cc_2 (n_bn h (fun r9 σ9 h => n_rt h))) (fun h => hl_118_28 FU x1 (σ 0 12) 0 σ8 h)))
  exact wpn_Ex (cuts := [28]) monCC (fun _ _ _ _ z => z) 15 0 _ _ _ v
