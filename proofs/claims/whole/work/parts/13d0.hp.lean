/-! the code does what the functions say (written by wip/whole/gen/spec.py) -/
-- TradeTestsModel.findPlan
set_option maxHeartbeats 20000000 in
set_option maxRecDepth 100000 in
set_option maxHeartbeats 20000000 in
set_option maxRecDepth 100000 in
theorem vh_186_241 {sc : Nat × (Nat → Int32)} {C : CT} (hC : MonC C) {Q : Int32 → St → Prop} (v1 : Int32) (v2 : Int32) (v3 : Int32) (σ : St) (v : (v3 < 0 → vp_in v2 6 ∧ ((0 ≤ (σ 84 (v2).toNatClampNeg) → vp_in v2 6 ∧ (Ex sc C 1 cd_186 Q 219 [some (.ref 12), some (.int (v1 ||| ((1 : Int32) <<< ((σ 84 (v2).toNatClampNeg) &&& 31)))), some (.int (v2 + 1)), some (.int v3), none, none] [] σ)) ∧ (¬ 0 ≤ (σ 84 (v2).toNatClampNeg) → Ex sc C 1 cd_186 Q 219 [some (.ref 12), some (.int (v1 ||| 0)), some (.int (v2 + 1)), some (.int v3), none, none] [] σ))) ∧ (¬ v3 < 0 → (¬ ((v1 >>> (v3 &&& 31)) &&& 1) = 0 → Ex sc C 1 cd_186 Q 241 [some (.ref 12), some (.int v1), some (.int v2), some (.int (v3 + (-1))), none, none] [] σ) ∧ (((v1 >>> (v3 &&& 31)) &&& 1) = 0 → vp_in (((6 : Int32) * v2) + v3) 36 ∧ (vp_in ((((64 : Int32) * v2) + 64) + (v1 ||| ((1 : Int32) <<< (v3 &&& 31)))) 448 ∧ (vp_in (((64 : Int32) * v2) + v1) 448 ∧ ((¬ ((σ 83 (((6 : Int32) * v2) + v3).toNatClampNeg) + (σ 82 ((((64 : Int32) * v2) + 64) + (v1 ||| ((1 : Int32) <<< (v3 &&& 31)))).toNatClampNeg)) = (σ 82 (((64 : Int32) * v2) + v1).toNatClampNeg) → Ex sc C 1 cd_186 Q 241 [some (.ref 12), some (.int v1), some (.int v2), some (.int (v3 + (-1))), none, none] [] σ) ∧ (((σ 83 (((6 : Int32) * v2) + v3).toNatClampNeg) + (σ 82 ((((64 : Int32) * v2) + 64) + (v1 ||| ((1 : Int32) <<< (v3 &&& 31)))).toNatClampNeg)) = (σ 82 (((64 : Int32) * v2) + v1).toNatClampNeg) → vp_in v2 6 ∧ (Ex sc C 1 cd_186 Q 241 [some (.ref 12), some (.int v1), some (.int v2), some (.int (v3 + (-1))), none, none] [] (up σ 84 (v2).toNatClampNeg v3))))))))) : Ex sc C 1 cd_186 Q 241 [some (.ref 12), some (.int v1), some (.int v2), some (.int v3), none, none] [] σ := stw_Ex (cuts := [2, 12, 51, 85, 91, 115, 219, 241]) hC 48 v
theorem hl_186_241 {sc : Nat × (Nat → Int32)} {Q : Int32 → St → Prop} (ko : Int32 → Int32 → St → MR) (hko : ∀ (v1 : Int32) (v2 : Int32) (σ : St), Ap (ko v1 v2 σ) Q → Ex sc CC 1 cd_186 Q 219 [some (.ref 12), some (.int v1), some (.int v2), none, none, none] [] σ) : ∀ (n : Nat) (v1 : Int32) (v2 : Int32) (v3 : Int32) (σ : St), Ap (lp_186_241 ko n v1 v2 v3 σ) Q → Ex sc CC 1 cd_186 Q 241 [some (.ref 12), some (.int v1), some (.int v2), some (.int v3), none, none] [] σ := by
  intro n
  induction n with
  | zero => intro v1 v2 v3 σ h; exact n_no h
  | succ n ih =>
    intro v1 v2 v3 σ h
    exact vh_186_241 monCC v1 v2 v3 σ (n_if h (fun h => n_mb h (fun h => n_if h (fun h => n_mb h (fun h => Ex_fg [true, true, true, false, true, true] (hko (v1 ||| ((1 : Int32) <<< ((σ 84 (v2).toNatClampNeg) &&& 31))) (v2 + 1) σ h))) (fun h => Ex_fg [true, true, true, false, true, true] (hko (v1 ||| 0) (v2 + 1) σ h)))) (fun h => n_ne h (fun h => n_mb h (fun h => n_mb h (fun h => n_mb h (fun h => n_ne h (fun h => n_mb h (fun h => ih v1 v2 (v3 + (-1)) (up σ 84 (v2).toNatClampNeg v3) h)) (fun h => ih v1 v2 (v3 + (-1)) σ h))))) (fun h => ih v1 v2 (v3 + (-1)) σ h)))
set_option maxHeartbeats 20000000 in
set_option maxRecDepth 100000 in
set_option maxHeartbeats 20000000 in
set_option maxRecDepth 100000 in
theorem vh_186_219 {sc : Nat × (Nat → Int32)} {C : CT} (hC : MonC C) {Q : Int32 → St → Prop} (v1 : Int32) (v2 : Int32) (σ : St) (v : ((σ 12 6) ≤ v2 → vp_in 0 448 ∧ (Q (σ 82 (0 : Int32).toNatClampNeg) σ)) ∧ (¬ (σ 12 6) ≤ v2 → vp_in v2 6 ∧ (Ex sc C 1 cd_186 Q 241 [some (.ref 12), some (.int v1), some (.int v2), some (.int ((σ 12 1) - 1)), none, none] [] (up σ 84 (v2).toNatClampNeg (-1))))) : Ex sc C 1 cd_186 Q 219 [some (.ref 12), some (.int v1), some (.int v2), none, none, none] [] σ := stw_Ex (cuts := [2, 12, 51, 85, 91, 115, 219, 241]) hC 15 v
theorem hl_186_219 {sc : Nat × (Nat → Int32)} {Q : Int32 → St → Prop} : ∀ (n : Nat) (v1 : Int32) (v2 : Int32) (σ : St), Ap (lp_186_219 n v1 v2 σ) Q → Ex sc CC 1 cd_186 Q 219 [some (.ref 12), some (.int v1), some (.int v2), none, none, none] [] σ := by
  intro n
  induction n with
  | zero => intro v1 v2 σ h; exact n_no h
  | succ n ih =>
    intro v1 v2 σ h
    exact vh_186_219 monCC v1 v2 σ (n_if h (fun h => n_mb h (fun h => n_rt h)) (fun h => n_mb h (fun h => hl_186_241 (fun v1 v2 σ => lp_186_219 n v1 v2 σ) ih FU v1 v2 ((σ 12 1) - 1) (up σ 84 (v2).toNatClampNeg (-1)) h)))
set_option maxHeartbeats 20000000 in
set_option maxRecDepth 100000 in
set_option maxHeartbeats 20000000 in
set_option maxRecDepth 100000 in
theorem vh_186_115 {sc : Nat × (Nat → Int32)} {C : CT} (hC : MonC C) {Q : Int32 → St → Prop} (v1 : Int32) (v2 : Int32) (v3 : Int32) (v4 : Int32) (σ : St) (v : ((σ 12 1) ≤ v4 → vp_in (((64 : Int32) * v1) + v2) 448 ∧ (Ex sc C 1 cd_186 Q 91 [some (.ref 12), some (.int v1), some (.int (v2 + 1)), some (.int v3), some (.int v4), none] [] (up σ 82 (((64 : Int32) * v1) + v2).toNatClampNeg v3))) ∧ (¬ (σ 12 1) ≤ v4 → (¬ ((v2 >>> (v4 &&& 31)) &&& 1) = 1 → vp_in (((6 : Int32) * v1) + v4) 36 ∧ (vp_in ((((64 : Int32) * v1) + 64) + (v2 ||| ((1 : Int32) <<< (v4 &&& 31)))) 448 ∧ ((((σ 83 (((6 : Int32) * v1) + v4).toNatClampNeg) + (σ 82 ((((64 : Int32) * v1) + 64) + (v2 ||| ((1 : Int32) <<< (v4 &&& 31)))).toNatClampNeg)) ≤ v3 → Ex sc C 1 cd_186 Q 115 [some (.ref 12), some (.int v1), some (.int v2), some (.int v3), some (.int (v4 + 1)), some (.int ((σ 83 (((6 : Int32) * v1) + v4).toNatClampNeg) + (σ 82 ((((64 : Int32) * v1) + 64) + (v2 ||| ((1 : Int32) <<< (v4 &&& 31)))).toNatClampNeg)))] [] σ) ∧ (¬ ((σ 83 (((6 : Int32) * v1) + v4).toNatClampNeg) + (σ 82 ((((64 : Int32) * v1) + 64) + (v2 ||| ((1 : Int32) <<< (v4 &&& 31)))).toNatClampNeg)) ≤ v3 → Ex sc C 1 cd_186 Q 115 [some (.ref 12), some (.int v1), some (.int v2), some (.int ((σ 83 (((6 : Int32) * v1) + v4).toNatClampNeg) + (σ 82 ((((64 : Int32) * v1) + 64) + (v2 ||| ((1 : Int32) <<< (v4 &&& 31)))).toNatClampNeg))), some (.int (v4 + 1)), some (.int ((σ 83 (((6 : Int32) * v1) + v4).toNatClampNeg) + (σ 82 ((((64 : Int32) * v1) + 64) + (v2 ||| ((1 : Int32) <<< (v4 &&& 31)))).toNatClampNeg)))] [] σ)))) ∧ (((v2 >>> (v4 &&& 31)) &&& 1) = 1 → ((0 : Int32) ≤ v3 → Ex sc C 1 cd_186 Q 115 [some (.ref 12), some (.int v1), some (.int v2), some (.int v3), some (.int (v4 + 1)), some (.int 0)] [] σ) ∧ (¬ (0 : Int32) ≤ v3 → Ex sc C 1 cd_186 Q 115 [some (.ref 12), some (.int v1), some (.int v2), some (.int 0), some (.int (v4 + 1)), some (.int 0)] [] σ)))) : Ex sc C 1 cd_186 Q 115 [some (.ref 12), some (.int v1), some (.int v2), some (.int v3), some (.int v4), none] [] σ := stw_Ex (cuts := [2, 12, 51, 85, 91, 115, 219, 241]) hC 44 v
theorem hl_186_115 {sc : Nat × (Nat → Int32)} {Q : Int32 → St → Prop} (ko : Int32 → Int32 → St → MR) (hko : ∀ (v1 : Int32) (v2 : Int32) (σ : St), Ap (ko v1 v2 σ) Q → Ex sc CC 1 cd_186 Q 91 [some (.ref 12), some (.int v1), some (.int v2), none, none, none] [] σ) : ∀ (n : Nat) (v1 : Int32) (v2 : Int32) (v3 : Int32) (v4 : Int32) (σ : St), Ap (lp_186_115 ko n v1 v2 v3 v4 σ) Q → Ex sc CC 1 cd_186 Q 115 [some (.ref 12), some (.int v1), some (.int v2), some (.int v3), some (.int v4), none] [] σ := by
  intro n
  induction n with
  | zero => intro v1 v2 v3 v4 σ h; exact n_no h
  | succ n ih =>
    intro v1 v2 v3 v4 σ h
    exact vh_186_115 monCC v1 v2 v3 v4 σ (n_if h (fun h => n_mb h (fun h => Ex_fg [true, true, true, false, false, true] (hko v1 (v2 + 1) (up σ 82 (((64 : Int32) * v1) + v2).toNatClampNeg v3) h))) (fun h => n_ne h (fun h => n_if h (fun h => Ex_fg [true, true, true, true, true, false] (ih v1 v2 v3 (v4 + 1) σ h)) (fun h => Ex_fg [true, true, true, true, true, false] (ih v1 v2 0 (v4 + 1) σ h))) (fun h => n_mb h (fun h => n_mb h (fun h => n_if h (fun h => Ex_fg [true, true, true, true, true, false] (ih v1 v2 v3 (v4 + 1) σ h)) (fun h => Ex_fg [true, true, true, true, true, false] (ih v1 v2 ((σ 83 (((6 : Int32) * v1) + v4).toNatClampNeg) + (σ 82 ((((64 : Int32) * v1) + 64) + (v2 ||| ((1 : Int32) <<< (v4 &&& 31)))).toNatClampNeg)) (v4 + 1) σ h)))))))
set_option maxHeartbeats 20000000 in
set_option maxRecDepth 100000 in
set_option maxHeartbeats 20000000 in
set_option maxRecDepth 100000 in
theorem vh_186_91 {sc : Nat × (Nat → Int32)} {C : CT} (hC : MonC C) {Q : Int32 → St → Prop} (v1 : Int32) (v2 : Int32) (σ : St) (v : (64 ≤ v2 → Ex sc C 1 cd_186 Q 85 [some (.ref 12), some (.int (v1 + (-1))), some (.int v2), none, none, none] [] σ) ∧ (¬ 64 ≤ v2 → vp_in ((((64 : Int32) * v1) + 64) + v2) 448 ∧ (Ex sc C 1 cd_186 Q 115 [some (.ref 12), some (.int v1), some (.int v2), some (.int (σ 82 ((((64 : Int32) * v1) + 64) + v2).toNatClampNeg)), some (.int 0), none] [] σ))) : Ex sc C 1 cd_186 Q 91 [some (.ref 12), some (.int v1), some (.int v2), none, none, none] [] σ := stw_Ex (cuts := [2, 12, 51, 85, 91, 115, 219, 241]) hC 17 v
theorem hl_186_91 {sc : Nat × (Nat → Int32)} {Q : Int32 → St → Prop} (ko : Int32 → St → MR) (hko : ∀ (v1 : Int32) (σ : St), Ap (ko v1 σ) Q → Ex sc CC 1 cd_186 Q 85 [some (.ref 12), some (.int v1), none, none, none, none] [] σ) : ∀ (n : Nat) (v1 : Int32) (v2 : Int32) (σ : St), Ap (lp_186_91 ko n v1 v2 σ) Q → Ex sc CC 1 cd_186 Q 91 [some (.ref 12), some (.int v1), some (.int v2), none, none, none] [] σ := by
  intro n
  induction n with
  | zero => intro v1 v2 σ h; exact n_no h
  | succ n ih =>
    intro v1 v2 σ h
    exact vh_186_91 monCC v1 v2 σ (n_if h (fun h => Ex_fg [true, true, false, true, true, true] (hko (v1 + (-1)) σ h)) (fun h => n_mb h (fun h => hl_186_115 (fun v1 v2 σ => lp_186_91 ko n v1 v2 σ) ih FU v1 v2 (σ 82 ((((64 : Int32) * v1) + 64) + v2).toNatClampNeg) 0 σ h)))
set_option maxHeartbeats 20000000 in
set_option maxRecDepth 100000 in
set_option maxHeartbeats 20000000 in
set_option maxRecDepth 100000 in
theorem vh_186_85 {sc : Nat × (Nat → Int32)} {C : CT} (hC : MonC C) {Q : Int32 → St → Prop} (v1 : Int32) (σ : St) (v : (v1 < 0 → Ex sc C 1 cd_186 Q 219 [some (.ref 12), some (.int 0), some (.int 0), none, none, none] [] σ) ∧ (¬ v1 < 0 → Ex sc C 1 cd_186 Q 91 [some (.ref 12), some (.int v1), some (.int 0), none, none, none] [] σ)) : Ex sc C 1 cd_186 Q 85 [some (.ref 12), some (.int v1), none, none, none, none] [] σ := stw_Ex (cuts := [2, 12, 51, 85, 91, 115, 219, 241]) hC 7 v
theorem hl_186_85 {sc : Nat × (Nat → Int32)} {Q : Int32 → St → Prop} : ∀ (n : Nat) (v1 : Int32) (σ : St), Ap (lp_186_85 n v1 σ) Q → Ex sc CC 1 cd_186 Q 85 [some (.ref 12), some (.int v1), none, none, none, none] [] σ := by
  intro n
  induction n with
  | zero => intro v1 σ h; exact n_no h
  | succ n ih =>
    intro v1 σ h
    exact vh_186_85 monCC v1 σ (n_if h (fun h => hl_186_219 FU 0 0 σ h) (fun h => hl_186_91 (fun v1 σ => lp_186_85 n v1 σ) ih FU v1 0 σ h))
set_option maxHeartbeats 20000000 in
set_option maxRecDepth 100000 in
set_option maxHeartbeats 20000000 in
set_option maxRecDepth 100000 in
theorem vh_186_51 {sc : Nat × (Nat → Int32)} {C : CT} (hC : MonC C) {Q : Int32 → St → Prop} (v1 : Int32) (σ : St) (v : (64 ≤ v1 → Ex sc C 1 cd_186 Q 85 [some (.ref 12), some (.int ((σ 12 6) - 1)), none, none, none, none] [] σ) ∧ (¬ 64 ≤ v1 → vp_in (((64 : Int32) * (σ 12 6)) + v1) 448 ∧ (Ex sc C 1 cd_186 Q 51 [some (.ref 12), some (.int (v1 + 1)), none, none, none, none] [] (up σ 82 (((64 : Int32) * (σ 12 6)) + v1).toNatClampNeg 0)))) : Ex sc C 1 cd_186 Q 51 [some (.ref 12), some (.int v1), none, none, none, none] [] σ := stw_Ex (cuts := [2, 12, 51, 85, 91, 115, 219, 241]) hC 16 v
theorem hl_186_51 {sc : Nat × (Nat → Int32)} {Q : Int32 → St → Prop} : ∀ (n : Nat) (v1 : Int32) (σ : St), Ap (lp_186_51 n v1 σ) Q → Ex sc CC 1 cd_186 Q 51 [some (.ref 12), some (.int v1), none, none, none, none] [] σ := by
  intro n
  induction n with
  | zero => intro v1 σ h; exact n_no h
  | succ n ih =>
    intro v1 σ h
    exact vh_186_51 monCC v1 σ (n_if h (fun h => hl_186_85 FU ((σ 12 6) - 1) σ h) (fun h => n_mb h (fun h => ih (v1 + 1) (up σ 82 (((64 : Int32) * (σ 12 6)) + v1).toNatClampNeg 0) h)))
set_option maxHeartbeats 20000000 in
set_option maxRecDepth 100000 in
set_option maxHeartbeats 20000000 in
set_option maxRecDepth 100000 in
theorem vh_186_12 {sc : Nat × (Nat → Int32)} {C : CT} (hC : MonC C) {Q : Int32 → St → Prop} (v1 : Int32) (v2 : Int32) (σ : St) (v : ((σ 12 1) ≤ v2 → Ex sc C 1 cd_186 Q 2 [some (.ref 12), some (.int (v1 + 1)), some (.int v2), none, none, none] [] σ) ∧ (¬ (σ 12 1) ≤ v2 → C 184 [.ref 12, .int v1, .int v2] σ (fun r3 σ3 => vp_in (((6 : Int32) * v1) + v2) 36 ∧ (Ex sc C 1 cd_186 Q 12 [some (.ref 12), some (.int v1), some (.int (v2 + 1)), none, none, none] [] (up σ3 83 (((6 : Int32) * v1) + v2).toNatClampNeg r3))))) : Ex sc C 1 cd_186 Q 12 [some (.ref 12), some (.int v1), some (.int v2), none, none, none] [] σ := stw_Ex (cuts := [2, 12, 51, 85, 91, 115, 219, 241]) hC 19 v
theorem hl_186_12 {sc : Nat × (Nat → Int32)} {Q : Int32 → St → Prop} (ko : Int32 → St → MR) (hko : ∀ (v1 : Int32) (σ : St), Ap (ko v1 σ) Q → Ex sc CC 1 cd_186 Q 2 [some (.ref 12), some (.int v1), none, none, none, none] [] σ) : ∀ (n : Nat) (v1 : Int32) (v2 : Int32) (σ : St), Ap (lp_186_12 ko n v1 v2 σ) Q → Ex sc CC 1 cd_186 Q 12 [some (.ref 12), some (.int v1), some (.int v2), none, none, none] [] σ := by
  intro n
  induction n with
  | zero => intro v1 v2 σ h; exact n_no h
  | succ n ih =>
    intro v1 v2 σ h
    exact vh_186_12 monCC v1 v2 σ (n_if h (fun h => Ex_fg [true, true, false, true, true, true] (hko (v1 + 1) σ h)) (fun h => cc_184 (n_bn h (fun r3 σ3 h => n_mb h (fun h => ih v1 (v2 + 1) (up σ3 83 (((6 : Int32) * v1) + v2).toNatClampNeg r3) h)))))
set_option maxHeartbeats 20000000 in
set_option maxRecDepth 100000 in
set_option maxHeartbeats 20000000 in
set_option maxRecDepth 100000 in
theorem vh_186_2 {sc : Nat × (Nat → Int32)} {C : CT} (hC : MonC C) {Q : Int32 → St → Prop} (v1 : Int32) (σ : St) (v : ((σ 12 6) ≤ v1 → Ex sc C 1 cd_186 Q 51 [some (.ref 12), some (.int 0), none, none, none, none] [] σ) ∧ (¬ (σ 12 6) ≤ v1 → Ex sc C 1 cd_186 Q 12 [some (.ref 12), some (.int v1), some (.int 0), none, none, none] [] σ)) : Ex sc C 1 cd_186 Q 2 [some (.ref 12), some (.int v1), none, none, none, none] [] σ := stw_Ex (cuts := [2, 12, 51, 85, 91, 115, 219, 241]) hC 7 v
theorem hl_186_2 {sc : Nat × (Nat → Int32)} {Q : Int32 → St → Prop} : ∀ (n : Nat) (v1 : Int32) (σ : St), Ap (lp_186_2 n v1 σ) Q → Ex sc CC 1 cd_186 Q 2 [some (.ref 12), some (.int v1), none, none, none, none] [] σ := by
  intro n
  induction n with
  | zero => intro v1 σ h; exact n_no h
  | succ n ih =>
    intro v1 σ h
    exact vh_186_2 monCC v1 σ (n_if h (fun h => hl_186_51 FU 0 σ h) (fun h => hl_186_12 (fun v1 σ => lp_186_2 n v1 σ) ih FU v1 0 σ h))
set_option maxHeartbeats 20000000 in
set_option maxRecDepth 100000 in
theorem ve_186 {sc : Nat × (Nat → Int32)} {C : CT} (hC : MonC C) {Q : Int32 → St → Prop}  (σ : St) (v : Ex sc C 1 cd_186 Q 2 [some (.ref 12), some (.int 0), none, none, none, none] [] σ) : Ex sc C 1 cd_186 Q 0 [some (.ref 12), none, none, none, none, none] [] σ := wpn_Ex (cuts := [2, 12, 51, 85, 91, 115, 219, 241]) hC (fun _ _ _ _ z => z) 4 0 _ _ _ v
set_option maxHeartbeats 20000000 in
set_option maxRecDepth 100000 in
theorem hp_186 {sc : Nat × (Nat → Int32)} {Q : Int32 → St → Prop}  {σ : St} (h : Ap (sp_186  σ) Q) : Ex sc CC 1 cd_186 Q 0 [some (.ref 12), none, none, none, none, none] [] σ := by
  exact ve_186 monCC  σ (hl_186_2 FU 0 σ h)
