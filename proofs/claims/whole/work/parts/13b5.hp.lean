/-! the code does what the functions say (written by wip/whole/gen/spec.py) -/
-- TradeTests$Rates.measure
set_option maxHeartbeats 20000000 in
set_option maxRecDepth 100000 in
set_option maxHeartbeats 20000000 in
set_option maxRecDepth 100000 in
theorem vh_66_22 {sc : Nat × (Nat → Int32)} {C : CT} (hC : MonC C) {Q : Int32 → St → Prop} (v1 : Int32) (v2 : Int32) (σ : St) (v : ((σ 3 14) ≤ v2 → Q 0 σ) ∧ (¬ (σ 3 14) ≤ v2 → C 24 [.ref 2, .ref 3, .int v2] σ (fun r7 σ7 => (¬ r7 = v1 → Ex sc C 0 cd_66 Q 22 [some (.ref 7), some (.int v1), some (.int (v2 + 1)), none] [] σ7) ∧ (r7 = v1 → C 64 [.ref 7, .int v2] σ7 (fun r8 σ8 => C 67 [.ref 7, .int r8] σ8 (fun r9 σ9 => vp_in v2 80 ∧ (Ex sc C 0 cd_66 Q 22 [some (.ref 7), some (.int v1), some (.int (v2 + 1)), some (.int r9)] [] (up (up (up (up σ9 7 5 ((σ9 7 5) + 1)) 7 6 ((σ9 7 6) + (σ9 33 (v2).toNatClampNeg))) 7 7 ((σ9 7 7) + r9)) 7 8 ((σ9 7 8) + (r9 * ((1000 : Int32) - r9))))))))))) : Ex sc C 0 cd_66 Q 22 [some (.ref 7), some (.int v1), some (.int v2), none] [] σ := stw_Ex (cuts := [22]) hC 54 v
theorem hl_66_22 {sc : Nat × (Nat → Int32)} {Q : Int32 → St → Prop} : ∀ (n : Nat) (v1 : Int32) (v2 : Int32) (σ : St), Ap (lp_66_22 n v1 v2 σ) Q → Ex sc CC 0 cd_66 Q 22 [some (.ref 7), some (.int v1), some (.int v2), none] [] σ := by
  intro n
  induction n with
  | zero => intro v1 v2 σ h; exact n_no h
  | succ n ih =>
    intro v1 v2 σ h
    exact vh_66_22 monCC v1 v2 σ (n_if h (fun h => n_rt h) (fun h => cc_24 (n_bn h (fun r7 σ7 h => n_ne h (fun h => cc_64 (n_bn h (fun r8 σ8 h => cc_67 (n_bn h (fun r9 σ9 h => n_mb h (fun h => Ex_fg [true, true, true, false] (ih v1 (v2 + 1) (up (up (up (up σ9 7 5 ((σ9 7 5) + 1)) 7 6 ((σ9 7 6) + (σ9 33 (v2).toNatClampNeg))) 7 7 ((σ9 7 7) + r9)) 7 8 ((σ9 7 8) + (r9 * ((1000 : Int32) - r9)))) h))))))) (fun h => ih v1 (v2 + 1) σ7 h)))))
set_option maxHeartbeats 20000000 in
set_option maxRecDepth 100000 in
theorem ve_66 {sc : Nat × (Nat → Int32)} {C : CT} (hC : MonC C) {Q : Int32 → St → Prop} (x1 : Int32) (σ : St) (v : Ex sc C 0 cd_66 Q 22 [some (.ref 7), some (.int x1), some (.int 0), none] [] (up (up (up (up σ 7 5 0) 7 6 0) 7 7 0) 7 8 0)) : Ex sc C 0 cd_66 Q 0 [some (.ref 7), some (.int x1), none, none] [] σ := wpn_Ex (cuts := [22]) hC (fun _ _ _ _ z => z) 16 0 _ _ _ v
set_option maxHeartbeats 20000000 in
set_option maxRecDepth 100000 in
theorem hp_66 {sc : Nat × (Nat → Int32)} {Q : Int32 → St → Prop} {x1 : Int32} {σ : St} (h : Ap (sp_66 x1 σ) Q) : Ex sc CC 0 cd_66 Q 0 [some (.ref 7), some (.int x1), none, none] [] σ := by
  exact ve_66 monCC x1 σ (hl_66_22 FU x1 0 (up (up (up (up σ 7 5 0) 7 6 0) 7 7 0) 7 8 0) h)
-- TradeTests$Rates.garagesWithTests
set_option maxHeartbeats 20000000 in
set_option maxRecDepth 100000 in
set_option maxHeartbeats 20000000 in
set_option maxRecDepth 100000 in
theorem vh_70_4 {sc : Nat × (Nat → Int32)} {C : CT} (hC : MonC C) {Q : Int32 → St → Prop} (v1 : Int32) (v2 : Int32) (σ : St) (v : ((σ 3 14) ≤ v2 → C 59 [.int v1] σ (fun r5 σ5 => Q r5 σ5)) ∧ (¬ (σ 3 14) ≤ v2 → C 24 [.ref 2, .ref 3, .int v2] σ (fun r6 σ6 => Ex sc C 1 cd_70 Q 4 [some (.ref 7), some (.int (v1 ||| ((1 : Int32) <<< (r6 &&& 31)))), some (.int (v2 + 1))] [] σ6))) : Ex sc C 1 cd_70 Q 4 [some (.ref 7), some (.int v1), some (.int v2)] [] σ := stw_Ex (cuts := [4]) hC 19 v
theorem hl_70_4 {sc : Nat × (Nat → Int32)} {Q : Int32 → St → Prop} : ∀ (n : Nat) (v1 : Int32) (v2 : Int32) (σ : St), Ap (lp_70_4 n v1 v2 σ) Q → Ex sc CC 1 cd_70 Q 4 [some (.ref 7), some (.int v1), some (.int v2)] [] σ := by
  intro n
  induction n with
  | zero => intro v1 v2 σ h; exact n_no h
  | succ n ih =>
    intro v1 v2 σ h
    exact vh_70_4 monCC v1 v2 σ (n_if h (fun h => cc_59 (n_bn h (fun r5 σ5 h => n_rt h))) (fun h => cc_24 (n_bn h (fun r6 σ6 h => ih (v1 ||| ((1 : Int32) <<< (r6 &&& 31))) (v2 + 1) σ6 h))))
set_option maxHeartbeats 20000000 in
set_option maxRecDepth 100000 in
theorem ve_70 {sc : Nat × (Nat → Int32)} {C : CT} (hC : MonC C) {Q : Int32 → St → Prop}  (σ : St) (v : Ex sc C 1 cd_70 Q 4 [some (.ref 7), some (.int 0), some (.int 0)] [] σ) : Ex sc C 1 cd_70 Q 0 [some (.ref 7), none, none] [] σ := wpn_Ex (cuts := [4]) hC (fun _ _ _ _ z => z) 6 0 _ _ _ v
set_option maxHeartbeats 20000000 in
set_option maxRecDepth 100000 in
theorem hp_70 {sc : Nat × (Nat → Int32)} {Q : Int32 → St → Prop}  {σ : St} (h : Ap (sp_70  σ) Q) : Ex sc CC 1 cd_70 Q 0 [some (.ref 7), none, none] [] σ := by
  exact ve_70 monCC  σ (hl_70_4 FU 0 0 σ h)
-- TradeTests.falls
set_option maxHeartbeats 20000000 in
set_option maxRecDepth 100000 in
theorem ve_75 {sc : Nat × (Nat → Int32)} {C : CT} (hC : MonC C) {Q : Int32 → St → Prop} (x1 : Int32) (σ : St) (v : C 1 [.int x1, .int (σ 3 14)] σ (fun r9 σ9 => (¬ r9 = 0 → vp_in x1 80 ∧ (vp_in (σ9 24 (x1).toNatClampNeg) 24 ∧ ((¬ (σ9 15 (σ9 24 (x1).toNatClampNeg).toNatClampNeg) = 3 → C 76 [.ref 8, .int x1] σ9 (fun r10 σ10 => Q r10 σ10)) ∧ ((σ9 15 (σ9 24 (x1).toNatClampNeg).toNatClampNeg) = 3 → C 2 [.ref 0, .int 5] σ9 (fun r11 σ11 => Q r11 σ11))))) ∧ (r9 = 0 → C 2 [.ref 0, .int 1] σ9 (fun r12 σ12 => Q r12 σ12)))) : Ex sc C 1 cd_75 Q 0 [some (.ref 0), some (.int x1)] [] σ := wpn_Ex (cuts := []) hC (fun _ _ _ _ z => z) 23 0 _ _ _ v
set_option maxHeartbeats 20000000 in
set_option maxRecDepth 100000 in
theorem hp_75 {sc : Nat × (Nat → Int32)} {Q : Int32 → St → Prop} {x1 : Int32} {σ : St} (h : Ap (sp_75 x1 σ) Q) : Ex sc CC 1 cd_75 Q 0 [some (.ref 0), some (.int x1)] [] σ := by
  exact ve_75 monCC x1 σ (cc_1 (n_bn h (fun r9 σ9 h => n_ne h (fun h => cc_2 (n_bn h (fun r12 σ12 h => n_rt h))) (fun h => n_mb h (fun h => n_mb h (fun h => n_ne h (fun h => cc_2 (n_bn h (fun r11 σ11 h => n_rt h))) (fun h => cc_76 (n_bn h (fun r10 σ10 h => n_rt h)))))))))
-- TradeTests.rule
set_option maxHeartbeats 20000000 in
set_option maxRecDepth 100000 in
theorem ve_80 {sc : Nat × (Nat → Int32)} {C : CT} (hC : MonC C) {Q : Int32 → St → Prop} (x1 x2 : Int32) (σ : St) (v : C 81 [.ref 10, .int x1, .int x2] σ (fun r7 σ7 => (¬ r7 = 0 → C 82 [.ref 10, .int x1, .int x2] σ7 (fun r8 σ8 => Q r8 σ8)) ∧ (r7 = 0 → C 2 [.ref 0, .int 1] σ7 (fun r9 σ9 => Q r9 σ9)))) : Ex sc C 1 cd_80 Q 0 [some (.ref 0), some (.int x1), some (.int x2)] [] σ := wpn_Ex (cuts := []) hC (fun _ _ _ _ z => z) 13 0 _ _ _ v
set_option maxHeartbeats 20000000 in
set_option maxRecDepth 100000 in
theorem hp_80 {sc : Nat × (Nat → Int32)} {Q : Int32 → St → Prop} {x1 x2 : Int32} {σ : St} (h : Ap (sp_80 x1 x2 σ) Q) : Ex sc CC 1 cd_80 Q 0 [some (.ref 0), some (.int x1), some (.int x2)] [] σ := by
  exact ve_80 monCC x1 x2 σ (cc_81 (n_bn h (fun r7 σ7 h => n_ne h (fun h => cc_2 (n_bn h (fun r9 σ9 h => n_rt h))) (fun h => cc_82 (n_bn h (fun r8 σ8 h => n_rt h))))))
-- TradeTests$Secrets.missed
set_option maxHeartbeats 20000000 in
set_option maxRecDepth 100000 in
theorem ve_86 {sc : Nat × (Nat → Int32)} {C : CT} (hC : MonC C) {Q : Int32 → St → Prop} (x1 : Int32) (σ : St) (v : vp_in x1 80 ∧ (C 40 [.ref 4, .int (σ 26 (x1).toNatClampNeg)] σ (fun r7 σ7 => (0 ≤ r7 → C 60 [.ref 9, .int x1] σ7 (fun r8 σ8 => vp_in x1 80 ∧ (C 41 [.ref 4, .int r7, .int 1] σ8 (fun r9 σ9 => Q ((r8 &&& ((σ8 32 (x1).toNatClampNeg) ^^^ (-1))) &&& r9) σ9)))) ∧ (¬ 0 ≤ r7 → Q 0 σ7)))) : Ex sc C 1 cd_86 Q 0 [some (.ref 9), some (.int x1), none] [] σ := wpn_Ex (cuts := []) hC (fun _ _ _ _ z => z) 30 0 _ _ _ v
set_option maxHeartbeats 20000000 in
set_option maxRecDepth 100000 in
theorem hp_86 {sc : Nat × (Nat → Int32)} {Q : Int32 → St → Prop} {x1 : Int32} {σ : St} (h : Ap (sp_86 x1 σ) Q) : Ex sc CC 1 cd_86 Q 0 [some (.ref 9), some (.int x1), none] [] σ := by
  exact ve_86 monCC x1 σ (n_mb h (fun h => cc_40 (n_bn h (fun r7 σ7 h => n_if h (fun h => cc_60 (n_bn h (fun r8 σ8 h => n_mb h (fun h => cc_41 (n_bn h (fun r9 σ9 h => n_rt h)))))) (fun h => n_rt h)))))
-- TradeTests$Plan.fillBest
set_option maxHeartbeats 20000000 in
set_option maxRecDepth 100000 in
set_option maxHeartbeats 20000000 in
set_option maxRecDepth 100000 in
theorem vh_102_16 {sc : Nat × (Nat → Int32)} {C : CT} (hC : MonC C) {Q : Int32 → St → Prop} (v1 : Int32) (v2 : Int32) (σ : St) (v : (64 ≤ v2 → Ex sc C 0 cd_102 Q 10 [some (.ref 11), some (.int (v1 + (-1))), some (.int v2)] [] σ) ∧ (¬ 64 ≤ v2 → C 103 [.ref 11, .int v1, .int v2] σ (fun r3 σ3 => vp_in ((v1 * 64) + v2) 448 ∧ (Ex sc C 0 cd_102 Q 16 [some (.ref 11), some (.int v1), some (.int (v2 + 1))] [] (up σ3 49 ((v1 * 64) + v2).toNatClampNeg r3))))) : Ex sc C 0 cd_102 Q 16 [some (.ref 11), some (.int v1), some (.int v2)] [] σ := stw_Ex (cuts := [10, 16]) hC 18 v
theorem hl_102_16 {sc : Nat × (Nat → Int32)} {Q : Int32 → St → Prop} (ko : Int32 → St → MR) (hko : ∀ (v1 : Int32) (σ : St), Ap (ko v1 σ) Q → Ex sc CC 0 cd_102 Q 10 [some (.ref 11), some (.int v1), none] [] σ) : ∀ (n : Nat) (v1 : Int32) (v2 : Int32) (σ : St), Ap (lp_102_16 ko n v1 v2 σ) Q → Ex sc CC 0 cd_102 Q 16 [some (.ref 11), some (.int v1), some (.int v2)] [] σ := by
  intro n
  induction n with
  | zero => intro v1 v2 σ h; exact n_no h
  | succ n ih =>
    intro v1 v2 σ h
    exact vh_102_16 monCC v1 v2 σ (n_if h (fun h => Ex_fg [true, true, false] (hko (v1 + (-1)) σ h)) (fun h => cc_103 (n_bn h (fun r3 σ3 h => n_mb h (fun h => ih v1 (v2 + 1) (up σ3 49 ((v1 * 64) + v2).toNatClampNeg r3) h)))))
set_option maxHeartbeats 20000000 in
set_option maxRecDepth 100000 in
set_option maxHeartbeats 20000000 in
set_option maxRecDepth 100000 in
theorem vh_102_10 {sc : Nat × (Nat → Int32)} {C : CT} (hC : MonC C) {Q : Int32 → St → Prop} (v1 : Int32) (σ : St) (v : (v1 < 0 → Q 0 σ) ∧ (¬ v1 < 0 → Ex sc C 0 cd_102 Q 16 [some (.ref 11), some (.int v1), some (.int 0)] [] σ)) : Ex sc C 0 cd_102 Q 10 [some (.ref 11), some (.int v1), none] [] σ := stw_Ex (cuts := [10, 16]) hC 5 v
theorem hl_102_10 {sc : Nat × (Nat → Int32)} {Q : Int32 → St → Prop} : ∀ (n : Nat) (v1 : Int32) (σ : St), Ap (lp_102_10 n v1 σ) Q → Ex sc CC 0 cd_102 Q 10 [some (.ref 11), some (.int v1), none] [] σ := by
  intro n
  induction n with
  | zero => intro v1 σ h; exact n_no h
  | succ n ih =>
    intro v1 σ h
    exact vh_102_10 monCC v1 σ (n_if h (fun h => n_rt h) (fun h => hl_102_16 (fun v1 σ => lp_102_10 n v1 σ) ih FU v1 0 σ h))
set_option maxHeartbeats 20000000 in
set_option maxRecDepth 100000 in
theorem ve_102 {sc : Nat × (Nat → Int32)} {C : CT} (hC : MonC C) {Q : Int32 → St → Prop}  (σ : St) (v : Ex sc C 0 cd_102 Q 10 [some (.ref 11), some (.int ((σ 9 3) - 1)), none] [] σ) : Ex sc C 0 cd_102 Q 0 [some (.ref 11), none, none] [] σ := wpn_Ex (cuts := [10, 16]) hC (fun _ _ _ _ z => z) 8 0 _ _ _ v
set_option maxHeartbeats 20000000 in
set_option maxRecDepth 100000 in
theorem hp_102 {sc : Nat × (Nat → Int32)} {Q : Int32 → St → Prop}  {σ : St} (h : Ap (sp_102  σ) Q) : Ex sc CC 0 cd_102 Q 0 [some (.ref 11), none, none] [] σ := by
  exact ve_102 monCC  σ (hl_102_10 FU ((σ 9 3) - 1) σ h)
-- TradeTests$Plan.garageFor
set_option maxHeartbeats 20000000 in
set_option maxRecDepth 100000 in
set_option maxHeartbeats 20000000 in
set_option maxRecDepth 100000 in
theorem vh_108_7 {sc : Nat × (Nat → Int32)} {C : CT} (hC : MonC C) {Q : Int32 → St → Prop} (v1 : Int32) (v2 : Int32) (v3 : Int32) (v4 : Int32) (σ : St) (v : (v1 < v4 → Q v3 σ) ∧ (¬ v1 < v4 → C 109 [.ref 11, .int v4, .int v2] σ (fun r3 σ3 => (0 ≤ r3 → Ex sc C 1 cd_108 Q 7 [some (.ref 11), some (.int v1), some (.int (v2 ||| ((1 : Int32) <<< (r3 &&& 31)))), some (.int r3), some (.int (v4 + 1))] [] σ3) ∧ (¬ 0 ≤ r3 → Ex sc C 1 cd_108 Q 7 [some (.ref 11), some (.int v1), some (.int v2), some (.int r3), some (.int (v4 + 1))] [] σ3)))) : Ex sc C 1 cd_108 Q 7 [some (.ref 11), some (.int v1), some (.int v2), some (.int v3), some (.int v4)] [] σ := stw_Ex (cuts := [7]) hC 19 v
theorem hl_108_7 {sc : Nat × (Nat → Int32)} {Q : Int32 → St → Prop} : ∀ (n : Nat) (v1 : Int32) (v2 : Int32) (v3 : Int32) (v4 : Int32) (σ : St), Ap (lp_108_7 n v1 v2 v3 v4 σ) Q → Ex sc CC 1 cd_108 Q 7 [some (.ref 11), some (.int v1), some (.int v2), some (.int v3), some (.int v4)] [] σ := by
  intro n
  induction n with
  | zero => intro v1 v2 v3 v4 σ h; exact n_no h
  | succ n ih =>
    intro v1 v2 v3 v4 σ h
    exact vh_108_7 monCC v1 v2 v3 v4 σ (n_if h (fun h => n_rt h) (fun h => cc_109 (n_bn h (fun r3 σ3 h => n_if h (fun h => ih v1 (v2 ||| ((1 : Int32) <<< (r3 &&& 31))) r3 (v4 + 1) σ3 h) (fun h => ih v1 v2 r3 (v4 + 1) σ3 h)))))
set_option maxHeartbeats 20000000 in
set_option maxRecDepth 100000 in
theorem ve_108 {sc : Nat × (Nat → Int32)} {C : CT} (hC : MonC C) {Q : Int32 → St → Prop} (x1 : Int32) (σ : St) (v : Ex sc C 1 cd_108 Q 7 [some (.ref 11), some (.int x1), some (.int 0), some (.int (-1)), some (.int 0)] [] σ) : Ex sc C 1 cd_108 Q 0 [some (.ref 11), some (.int x1), none, none, none] [] σ := wpn_Ex (cuts := [7]) hC (fun _ _ _ _ z => z) 8 0 _ _ _ v
set_option maxHeartbeats 20000000 in
set_option maxRecDepth 100000 in
theorem hp_108 {sc : Nat × (Nat → Int32)} {Q : Int32 → St → Prop} {x1 : Int32} {σ : St} (h : Ap (sp_108 x1 σ) Q) : Ex sc CC 1 cd_108 Q 0 [some (.ref 11), some (.int x1), none, none, none] [] σ := by
  exact ve_108 monCC x1 σ (hl_108_7 FU x1 0 (-1) 0 σ h)
