/-! the code does what the functions say (written by wip/whole/gen/spec.py) -/
-- TradeTestsModel.worth
set_option maxHeartbeats 20000000 in
set_option maxRecDepth 100000 in
theorem hp_183 {sc : Nat × (Nat → Int32)} {Q : Int32 → St → Prop} {x1 x2 : Int32} {σ : St} (h : Ap (sp_183 x1 x2 σ) Q) : Ex sc CC 1 cd_183 Q 0 [some (.ref 12), some (.int x1), some (.int x2)] [] σ := by
  have v : CC 123 [.int x1, .int 0, .int ((σ 12 6) - 1)] σ (fun r11 σ11 => (r11 = 0 → CC 125 [.ref 12, .int 1] σ11 (fun r12 σ12 => Q r12 σ12)) ∧ (¬ r11 = 0 → CC 132 [.ref 12, .int x2] σ11 (fun r13 σ13 => (r13 = 0 → CC 125 [.ref 12, .int 1] σ13 (fun r14 σ14 => Q r14 σ14)) ∧ (¬ r13 = 0 → CC 184 [.ref 12, .int x1, .int x2] σ13 (fun r15 σ15 => Q r15 σ15))))) := cc_123 (n_bn h (fun r11 σ11 h => n_if h (fun h => cc_125 (n_bn h (fun r12 σ12 h => n_rt h))) (fun h => cc_132 (n_bn h (fun r13 σ13 h => n_if h (fun h => cc_125 (n_bn h (fun r14 σ14 h => n_rt h))) (fun h => cc_184 (n_bn h (fun r15 σ15 h => n_rt h))))))))
  exact wpn_Ex (cuts := []) monCC (fun _ _ _ _ z => z) 19 0 _ _ _ v
-- TradeTestsModel.findPlan
set_option maxHeartbeats 20000000 in
set_option maxRecDepth 100000 in
theorem hl_186_241 {sc : Nat × (Nat → Int32)} {Q : Int32 → St → Prop} (ko : Int32 → Int32 → St → MR) (hko : ∀ (v1 : Int32) (v2 : Int32) (σ : St), Ap (ko v1 v2 σ) Q → Ex sc CC 1 cd_186 Q 219 [some (.ref 12), some (.int v1), some (.int v2), none, none, none] [] σ) : ∀ (n : Nat) (v1 : Int32) (v2 : Int32) (v3 : Int32) (σ : St), Ap (lp_186_241 ko n v1 v2 v3 σ) Q → Ex sc CC 1 cd_186 Q 241 [some (.ref 12), some (.int v1), some (.int v2), some (.int v3), none, none] [] σ := by
  intro n
  induction n with
  | zero => intro v1 v2 v3 σ h; exact n_no h
  | succ n ih =>
    intro v1 v2 v3 σ h
    have v : (v3 < 0 → vp_in v2 6 ∧ ((0 ≤ (σ 84 (v2).toNatClampNeg) → vp_in v2 6 ∧ (Ex sc CC 1 cd_186 Q 219 [some (.ref 12), some (.int (v1 ||| ((1 : Int32) <<< ((σ 84 (v2).toNatClampNeg) &&& 31)))), some (.int (v2 + 1)), some (.int v3), none, none] [] σ)) ∧ (¬ 0 ≤ (σ 84 (v2).toNatClampNeg) → Ex sc CC 1 cd_186 Q 219 [some (.ref 12), some (.int (v1 ||| 0)), some (.int (v2 + 1)), some (.int v3), none, none] [] σ))) ∧ (¬ v3 < 0 → (¬ ((v1 >>> (v3 &&& 31)) &&& 1) = 0 → Ex sc CC 1 cd_186 Q 241 [some (.ref 12), some (.int v1), some (.int v2), some (.int (v3 + (-1))), none, none] [] σ) ∧ (((v1 >>> (v3 &&& 31)) &&& 1) = 0 → vp_in (((6 : Int32) * v2) + v3) 36 ∧ (vp_in ((((64 : Int32) * v2) + 64) + (v1 ||| ((1 : Int32) <<< (v3 &&& 31)))) 448 ∧ (vp_in (((64 : Int32) * v2) + v1) 448 ∧ ((¬ ((σ 83 (((6 : Int32) * v2) + v3).toNatClampNeg) + (σ 82 ((((64 : Int32) * v2) + 64) + (v1 ||| ((1 : Int32) <<< (v3 &&& 31)))).toNatClampNeg)) = (σ 82 (((64 : Int32) * v2) + v1).toNatClampNeg) → Ex sc CC 1 cd_186 Q 241 [some (.ref 12), some (.int v1), some (.int v2), some (.int (v3 + (-1))), none, none] [] σ) ∧ (((σ 83 (((6 : Int32) * v2) + v3).toNatClampNeg) + (σ 82 ((((64 : Int32) * v2) + 64) + (v1 ||| ((1 : Int32) <<< (v3 &&& 31)))).toNatClampNeg)) = (σ 82 (((64 : Int32) * v2) + v1).toNatClampNeg) → vp_in v2 6 ∧ (Ex sc CC 1 cd_186 Q 241 [some (.ref 12), some (.int v1), some (.int v2), some (.int (v3 + (-1))), none, none] [] (up σ 84 (v2).toNatClampNeg v3)))))))) := n_if h (fun h => n_mb h (fun h => n_if h (fun h => n_mb h (fun h => Ex_fg [true, true, true, false, true, true] (hko (v1 ||| ((1 : Int32) <<< ((σ 84 (v2).toNatClampNeg) &&& 31))) (v2 + 1) σ h))) (fun h => Ex_fg [true, true, true, false, true, true] (hko (v1 ||| 0) (v2 + 1) σ h)))) (fun h => n_ne h (fun h => n_mb h (fun h => n_mb h (fun h => n_mb h (fun h => n_ne h (fun h => n_mb h (fun h => ih v1 v2 (v3 + (-1)) (up σ 84 (v2).toNatClampNeg v3) h)) (fun h => ih v1 v2 (v3 + (-1)) σ h))))) (fun h => ih v1 v2 (v3 + (-1)) σ h))
    exact stw_Ex (cuts := [2, 12, 51, 85, 91, 115, 219, 241]) monCC 48 v
set_option maxHeartbeats 20000000 in
set_option maxRecDepth 100000 in
theorem hl_186_219 {sc : Nat × (Nat → Int32)} {Q : Int32 → St → Prop} : ∀ (n : Nat) (v1 : Int32) (v2 : Int32) (σ : St), Ap (lp_186_219 n v1 v2 σ) Q → Ex sc CC 1 cd_186 Q 219 [some (.ref 12), some (.int v1), some (.int v2), none, none, none] [] σ := by
  intro n
  induction n with
  | zero => intro v1 v2 σ h; exact n_no h
  | succ n ih =>
    intro v1 v2 σ h
    have v : ((σ 12 6) ≤ v2 → vp_in 0 448 ∧ (Q (σ 82 (0 : Int32).toNatClampNeg) σ)) ∧ (¬ (σ 12 6) ≤ v2 → vp_in v2 6 ∧ (Ex sc CC 1 cd_186 Q 241 [some (.ref 12), some (.int v1), some (.int v2), some (.int ((σ 12 1) - 1)), none, none] [] (up σ 84 (v2).toNatClampNeg (-1)))) := n_if h (fun h => n_mb h (fun h => n_rt h)) (fun h => n_mb h (fun h => hl_186_241 (fun v1 v2 σ => lp_186_219 n v1 v2 σ) ih FU v1 v2 ((σ 12 1) - 1) (up σ 84 (v2).toNatClampNeg (-1)) h))
    exact stw_Ex (cuts := [2, 12, 51, 85, 91, 115, 219, 241]) monCC 15 v
set_option maxHeartbeats 20000000 in
set_option maxRecDepth 100000 in
theorem hl_186_115 {sc : Nat × (Nat → Int32)} {Q : Int32 → St → Prop} (ko : Int32 → Int32 → St → MR) (hko : ∀ (v1 : Int32) (v2 : Int32) (σ : St), Ap (ko v1 v2 σ) Q → Ex sc CC 1 cd_186 Q 91 [some (.ref 12), some (.int v1), some (.int v2), none, none, none] [] σ) : ∀ (n : Nat) (v1 : Int32) (v2 : Int32) (v3 : Int32) (v4 : Int32) (σ : St), Ap (lp_186_115 ko n v1 v2 v3 v4 σ) Q → Ex sc CC 1 cd_186 Q 115 [some (.ref 12), some (.int v1), some (.int v2), some (.int v3), some (.int v4), none] [] σ := by
  intro n
  induction n with
  | zero => intro v1 v2 v3 v4 σ h; exact n_no h
  | succ n ih =>
    intro v1 v2 v3 v4 σ h
    have v : ((σ 12 1) ≤ v4 → vp_in (((64 : Int32) * v1) + v2) 448 ∧ (Ex sc CC 1 cd_186 Q 91 [some (.ref 12), some (.int v1), some (.int (v2 + 1)), some (.int v3), some (.int v4), none] [] (up σ 82 (((64 : Int32) * v1) + v2).toNatClampNeg v3))) ∧ (¬ (σ 12 1) ≤ v4 → (¬ ((v2 >>> (v4 &&& 31)) &&& 1) = 1 → vp_in (((6 : Int32) * v1) + v4) 36 ∧ (vp_in ((((64 : Int32) * v1) + 64) + (v2 ||| ((1 : Int32) <<< (v4 &&& 31)))) 448 ∧ ((((σ 83 (((6 : Int32) * v1) + v4).toNatClampNeg) + (σ 82 ((((64 : Int32) * v1) + 64) + (v2 ||| ((1 : Int32) <<< (v4 &&& 31)))).toNatClampNeg)) ≤ v3 → Ex sc CC 1 cd_186 Q 115 [some (.ref 12), some (.int v1), some (.int v2), some (.int v3), some (.int (v4 + 1)), some (.int ((σ 83 (((6 : Int32) * v1) + v4).toNatClampNeg) + (σ 82 ((((64 : Int32) * v1) + 64) + (v2 ||| ((1 : Int32) <<< (v4 &&& 31)))).toNatClampNeg)))] [] σ) ∧ (¬ ((σ 83 (((6 : Int32) * v1) + v4).toNatClampNeg) + (σ 82 ((((64 : Int32) * v1) + 64) + (v2 ||| ((1 : Int32) <<< (v4 &&& 31)))).toNatClampNeg)) ≤ v3 → Ex sc CC 1 cd_186 Q 115 [some (.ref 12), some (.int v1), some (.int v2), some (.int ((σ 83 (((6 : Int32) * v1) + v4).toNatClampNeg) + (σ 82 ((((64 : Int32) * v1) + 64) + (v2 ||| ((1 : Int32) <<< (v4 &&& 31)))).toNatClampNeg))), some (.int (v4 + 1)), some (.int ((σ 83 (((6 : Int32) * v1) + v4).toNatClampNeg) + (σ 82 ((((64 : Int32) * v1) + 64) + (v2 ||| ((1 : Int32) <<< (v4 &&& 31)))).toNatClampNeg)))] [] σ)))) ∧ (((v2 >>> (v4 &&& 31)) &&& 1) = 1 → ((0 : Int32) ≤ v3 → Ex sc CC 1 cd_186 Q 115 [some (.ref 12), some (.int v1), some (.int v2), some (.int v3), some (.int (v4 + 1)), some (.int 0)] [] σ) ∧ (¬ (0 : Int32) ≤ v3 → Ex sc CC 1 cd_186 Q 115 [some (.ref 12), some (.int v1), some (.int v2), some (.int 0), some (.int (v4 + 1)), some (.int 0)] [] σ))) := n_if h (fun h => n_mb h (fun h => Ex_fg [true, true, true, false, false, true] (hko v1 (v2 + 1) (up σ 82 (((64 : Int32) * v1) + v2).toNatClampNeg v3) h))) (fun h => n_ne h (fun h => n_if h (fun h => Ex_fg [true, true, true, true, true, false] (ih v1 v2 v3 (v4 + 1) σ h)) (fun h => Ex_fg [true, true, true, true, true, false] (ih v1 v2 0 (v4 + 1) σ h))) (fun h => n_mb h (fun h => n_mb h (fun h => n_if h (fun h => Ex_fg [true, true, true, true, true, false] (ih v1 v2 v3 (v4 + 1) σ h)) (fun h => Ex_fg [true, true, true, true, true, false] (ih v1 v2 ((σ 83 (((6 : Int32) * v1) + v4).toNatClampNeg) + (σ 82 ((((64 : Int32) * v1) + 64) + (v2 ||| ((1 : Int32) <<< (v4 &&& 31)))).toNatClampNeg)) (v4 + 1) σ h))))))
    exact stw_Ex (cuts := [2, 12, 51, 85, 91, 115, 219, 241]) monCC 44 v
set_option maxHeartbeats 20000000 in
set_option maxRecDepth 100000 in
theorem hl_186_91 {sc : Nat × (Nat → Int32)} {Q : Int32 → St → Prop} (ko : Int32 → St → MR) (hko : ∀ (v1 : Int32) (σ : St), Ap (ko v1 σ) Q → Ex sc CC 1 cd_186 Q 85 [some (.ref 12), some (.int v1), none, none, none, none] [] σ) : ∀ (n : Nat) (v1 : Int32) (v2 : Int32) (σ : St), Ap (lp_186_91 ko n v1 v2 σ) Q → Ex sc CC 1 cd_186 Q 91 [some (.ref 12), some (.int v1), some (.int v2), none, none, none] [] σ := by
  intro n
  induction n with
  | zero => intro v1 v2 σ h; exact n_no h
  | succ n ih =>
    intro v1 v2 σ h
    have v : (64 ≤ v2 → Ex sc CC 1 cd_186 Q 85 [some (.ref 12), some (.int (v1 + (-1))), some (.int v2), none, none, none] [] σ) ∧ (¬ 64 ≤ v2 → vp_in ((((64 : Int32) * v1) + 64) + v2) 448 ∧ (Ex sc CC 1 cd_186 Q 115 [some (.ref 12), some (.int v1), some (.int v2), some (.int (σ 82 ((((64 : Int32) * v1) + 64) + v2).toNatClampNeg)), some (.int 0), none] [] σ)) := n_if h (fun h => Ex_fg [true, true, false, true, true, true] (hko (v1 + (-1)) σ h)) (fun h => n_mb h (fun h => hl_186_115 (fun v1 v2 σ => lp_186_91 ko n v1 v2 σ) ih FU v1 v2 (σ 82 ((((64 : Int32) * v1) + 64) + v2).toNatClampNeg) 0 σ h))
    exact stw_Ex (cuts := [2, 12, 51, 85, 91, 115, 219, 241]) monCC 17 v
set_option maxHeartbeats 20000000 in
set_option maxRecDepth 100000 in
theorem hl_186_85 {sc : Nat × (Nat → Int32)} {Q : Int32 → St → Prop} : ∀ (n : Nat) (v1 : Int32) (σ : St), Ap (lp_186_85 n v1 σ) Q → Ex sc CC 1 cd_186 Q 85 [some (.ref 12), some (.int v1), none, none, none, none] [] σ := by
  intro n
  induction n with
  | zero => intro v1 σ h; exact n_no h
  | succ n ih =>
    intro v1 σ h
    have v : (v1 < 0 → Ex sc CC 1 cd_186 Q 219 [some (.ref 12), some (.int 0), some (.int 0), none, none, none] [] σ) ∧ (¬ v1 < 0 → Ex sc CC 1 cd_186 Q 91 [some (.ref 12), some (.int v1), some (.int 0), none, none, none] [] σ) := n_if h (fun h => hl_186_219 FU 0 0 σ h) (fun h => hl_186_91 (fun v1 σ => lp_186_85 n v1 σ) ih FU v1 0 σ h)
    exact stw_Ex (cuts := [2, 12, 51, 85, 91, 115, 219, 241]) monCC 7 v
set_option maxHeartbeats 20000000 in
set_option maxRecDepth 100000 in
theorem hl_186_51 {sc : Nat × (Nat → Int32)} {Q : Int32 → St → Prop} : ∀ (n : Nat) (v1 : Int32) (σ : St), Ap (lp_186_51 n v1 σ) Q → Ex sc CC 1 cd_186 Q 51 [some (.ref 12), some (.int v1), none, none, none, none] [] σ := by
  intro n
  induction n with
  | zero => intro v1 σ h; exact n_no h
  | succ n ih =>
    intro v1 σ h
    have v : (64 ≤ v1 → Ex sc CC 1 cd_186 Q 85 [some (.ref 12), some (.int ((σ 12 6) - 1)), none, none, none, none] [] σ) ∧ (¬ 64 ≤ v1 → vp_in (((64 : Int32) * (σ 12 6)) + v1) 448 ∧ (Ex sc CC 1 cd_186 Q 51 [some (.ref 12), some (.int (v1 + 1)), none, none, none, none] [] (up σ 82 (((64 : Int32) * (σ 12 6)) + v1).toNatClampNeg 0))) := n_if h (fun h => hl_186_85 FU ((σ 12 6) - 1) σ h) (fun h => n_mb h (fun h => ih (v1 + 1) (up σ 82 (((64 : Int32) * (σ 12 6)) + v1).toNatClampNeg 0) h))
    exact stw_Ex (cuts := [2, 12, 51, 85, 91, 115, 219, 241]) monCC 16 v
set_option maxHeartbeats 20000000 in
set_option maxRecDepth 100000 in
theorem hl_186_12 {sc : Nat × (Nat → Int32)} {Q : Int32 → St → Prop} (ko : Int32 → St → MR) (hko : ∀ (v1 : Int32) (σ : St), Ap (ko v1 σ) Q → Ex sc CC 1 cd_186 Q 2 [some (.ref 12), some (.int v1), none, none, none, none] [] σ) : ∀ (n : Nat) (v1 : Int32) (v2 : Int32) (σ : St), Ap (lp_186_12 ko n v1 v2 σ) Q → Ex sc CC 1 cd_186 Q 12 [some (.ref 12), some (.int v1), some (.int v2), none, none, none] [] σ := by
  intro n
  induction n with
  | zero => intro v1 v2 σ h; exact n_no h
  | succ n ih =>
    intro v1 v2 σ h
    have v : ((σ 12 1) ≤ v2 → Ex sc CC 1 cd_186 Q 2 [some (.ref 12), some (.int (v1 + 1)), some (.int v2), none, none, none] [] σ) ∧ (¬ (σ 12 1) ≤ v2 → CC 184 [.ref 12, .int v1, .int v2] σ (fun r3 σ3 => vp_in (((6 : Int32) * v1) + v2) 36 ∧ (Ex sc CC 1 cd_186 Q 12 [some (.ref 12), some (.int v1), some (.int (v2 + 1)), none, none, none] [] (up σ3 83 (((6 : Int32) * v1) + v2).toNatClampNeg r3)))) := n_if h (fun h => Ex_fg [true, true, false, true, true, true] (hko (v1 + 1) σ h)) (fun h => cc_184 (n_bn h (fun r3 σ3 h => n_mb h (fun h => ih v1 (v2 + 1) (up σ3 83 (((6 : Int32) * v1) + v2).toNatClampNeg r3) h))))
    exact stw_Ex (cuts := [2, 12, 51, 85, 91, 115, 219, 241]) monCC 19 v
set_option maxHeartbeats 20000000 in
set_option maxRecDepth 100000 in
theorem hl_186_2 {sc : Nat × (Nat → Int32)} {Q : Int32 → St → Prop} : ∀ (n : Nat) (v1 : Int32) (σ : St), Ap (lp_186_2 n v1 σ) Q → Ex sc CC 1 cd_186 Q 2 [some (.ref 12), some (.int v1), none, none, none, none] [] σ := by
  intro n
  induction n with
  | zero => intro v1 σ h; exact n_no h
  | succ n ih =>
    intro v1 σ h
    have v : ((σ 12 6) ≤ v1 → Ex sc CC 1 cd_186 Q 51 [some (.ref 12), some (.int 0), none, none, none, none] [] σ) ∧ (¬ (σ 12 6) ≤ v1 → Ex sc CC 1 cd_186 Q 12 [some (.ref 12), some (.int v1), some (.int 0), none, none, none] [] σ) := n_if h (fun h => hl_186_51 FU 0 σ h) (fun h => hl_186_12 (fun v1 σ => lp_186_2 n v1 σ) ih FU v1 0 σ h)
    exact stw_Ex (cuts := [2, 12, 51, 85, 91, 115, 219, 241]) monCC 7 v
set_option maxHeartbeats 20000000 in
set_option maxRecDepth 100000 in
theorem hp_186 {sc : Nat × (Nat → Int32)} {Q : Int32 → St → Prop}  {σ : St} (h : Ap (sp_186  σ) Q) : Ex sc CC 1 cd_186 Q 0 [some (.ref 12), none, none, none, none, none] [] σ := by
  have v : Ex sc CC 1 cd_186 Q 2 [some (.ref 12), some (.int 0), none, none, none, none] [] σ := hl_186_2 FU 0 σ h
  exact wpn_Ex (cuts := [2, 12, 51, 85, 91, 115, 219, 241]) monCC (fun _ _ _ _ z => z) 4 0 _ _ _ v
-- TradeTestsModel.plan
set_option maxHeartbeats 20000000 in
set_option maxRecDepth 100000 in
theorem hp_185 {sc : Nat × (Nat → Int32)} {Q : Int32 → St → Prop} {x1 : Int32} {σ : St} (h : Ap (sp_185 x1 σ) Q) : Ex sc CC 1 cd_185 Q 0 [some (.ref 12), some (.int x1), none] [] σ := by
  have v : CC 123 [.int x1, .int (-1), .int ((σ 12 6) - 1)] σ (fun r9 σ9 => (¬ r9 = 0 → CC 186 [.ref 12] σ9 (fun r10 σ10 => (0 ≤ x1 → vp_in x1 6 ∧ ((0 ≤ (σ10 84 (x1).toNatClampNeg) → vp_in x1 6 ∧ (Q (σ10 84 (x1).toNatClampNeg) σ10)) ∧ (¬ 0 ≤ (σ10 84 (x1).toNatClampNeg) → CC 125 [.ref 12, .int 2] σ10 (fun r11 σ11 => Q r11 σ11)))) ∧ (¬ 0 ≤ x1 → Q r10 σ10))) ∧ (r9 = 0 → CC 125 [.ref 12, .int 1] σ9 (fun r12 σ12 => Q r12 σ12))) := cc_123 (n_bn h (fun r9 σ9 h => n_ne h (fun h => cc_125 (n_bn h (fun r12 σ12 h => n_rt h))) (fun h => cc_186 (n_bn h (fun r10 σ10 h => n_if h (fun h => n_mb h (fun h => n_if h (fun h => n_mb h (fun h => n_rt h)) (fun h => cc_125 (n_bn h (fun r11 σ11 h => n_rt h))))) (fun h => n_rt h))))))
  exact wpn_Ex (cuts := []) monCC (fun _ _ _ _ z => z) 24 0 _ _ _ v
