/-! the code does what the functions say (written by wip/whole/gen/spec.py) -/
-- TradeTests$Judge.brakesDo
set_option maxHeartbeats 20000000 in
set_option maxRecDepth 100000 in
theorem ve_44 {sc : Nat × (Nat → Int32)} {C : CT} (hC : MonC C) {Q : Int32 → St → Prop} (x1 x2 x3 : Int32) (σ : St) (v : (x3 ≤ x2 → (x3 ≤ x2 → vp_in x1 6 ∧ ((x3 < (σ 40 (x1).toNatClampNeg) → ((0 : Int32) = 0 ∨ (0 : Int32) = 1) ∧ Q 0 σ) ∧ (¬ x3 < (σ 40 (x1).toNatClampNeg) → vp_in x1 6 ∧ (((x3 * 100) < (((100 : Int32) - (σ 41 (x1).toNatClampNeg)) * x2) → ((0 : Int32) = 0 ∨ (0 : Int32) = 1) ∧ Q 0 σ) ∧ (¬ (x3 * 100) < (((100 : Int32) - (σ 41 (x1).toNatClampNeg)) * x2) → ((1 : Int32) = 0 ∨ (1 : Int32) = 1) ∧ Q 1 σ))))) ∧ (¬ x3 ≤ x2 → vp_in x1 6 ∧ ((x3 < (σ 40 (x1).toNatClampNeg) → ((0 : Int32) = 0 ∨ (0 : Int32) = 1) ∧ Q 0 σ) ∧ (¬ x3 < (σ 40 (x1).toNatClampNeg) → vp_in x1 6 ∧ (((x3 * 100) < (((100 : Int32) - (σ 41 (x1).toNatClampNeg)) * x3) → ((0 : Int32) = 0 ∨ (0 : Int32) = 1) ∧ Q 0 σ) ∧ (¬ (x3 * 100) < (((100 : Int32) - (σ 41 (x1).toNatClampNeg)) * x3) → ((1 : Int32) = 0 ∨ (1 : Int32) = 1) ∧ Q 1 σ)))))) ∧ (¬ x3 ≤ x2 → (x3 ≤ x2 → vp_in x1 6 ∧ ((x2 < (σ 40 (x1).toNatClampNeg) → ((0 : Int32) = 0 ∨ (0 : Int32) = 1) ∧ Q 0 σ) ∧ (¬ x2 < (σ 40 (x1).toNatClampNeg) → vp_in x1 6 ∧ (((x2 * 100) < (((100 : Int32) - (σ 41 (x1).toNatClampNeg)) * x2) → ((0 : Int32) = 0 ∨ (0 : Int32) = 1) ∧ Q 0 σ) ∧ (¬ (x2 * 100) < (((100 : Int32) - (σ 41 (x1).toNatClampNeg)) * x2) → ((1 : Int32) = 0 ∨ (1 : Int32) = 1) ∧ Q 1 σ))))) ∧ (¬ x3 ≤ x2 → vp_in x1 6 ∧ ((x2 < (σ 40 (x1).toNatClampNeg) → ((0 : Int32) = 0 ∨ (0 : Int32) = 1) ∧ Q 0 σ) ∧ (¬ x2 < (σ 40 (x1).toNatClampNeg) → vp_in x1 6 ∧ (((x2 * 100) < (((100 : Int32) - (σ 41 (x1).toNatClampNeg)) * x3) → ((0 : Int32) = 0 ∨ (0 : Int32) = 1) ∧ Q 0 σ) ∧ (¬ (x2 * 100) < (((100 : Int32) - (σ 41 (x1).toNatClampNeg)) * x3) → ((1 : Int32) = 0 ∨ (1 : Int32) = 1) ∧ Q 1 σ))))))) : Ex sc C 2 cd_44 Q 0 [some (.ref 5), some (.int x1), some (.int x2), some (.int x3), none, none] [] σ := wpn_Ex (cuts := []) hC (fun _ _ _ _ z => z) 36 0 _ _ _ v
set_option maxHeartbeats 20000000 in
set_option maxRecDepth 100000 in
theorem hp_44 {sc : Nat × (Nat → Int32)} {Q : Int32 → St → Prop} {x1 x2 x3 : Int32} {σ : St} (h : Ap (sp_44 x1 x2 x3 σ) Q) : Ex sc CC 2 cd_44 Q 0 [some (.ref 5), some (.int x1), some (.int x2), some (.int x3), none, none] [] σ := by
  exact ve_44 monCC x1 x2 x3 σ (n_if h (fun h => n_if h (fun h => n_mb h (fun h => n_if h (fun h => n_rb h) (fun h => n_mb h (fun h => n_if h (fun h => n_rb h) (fun h => n_rb h))))) (fun h => n_mb h (fun h => n_if h (fun h => n_rb h) (fun h => n_mb h (fun h => n_if h (fun h => n_rb h) (fun h => n_rb h)))))) (fun h => n_if h (fun h => n_mb h (fun h => n_if h (fun h => n_rb h) (fun h => n_mb h (fun h => n_if h (fun h => n_rb h) (fun h => n_rb h))))) (fun h => n_mb h (fun h => n_if h (fun h => n_rb h) (fun h => n_mb h (fun h => n_if h (fun h => n_rb h) (fun h => n_rb h)))))))
-- TradeTests$Signals.isQuick
set_option maxHeartbeats 20000000 in
set_option maxRecDepth 100000 in
theorem ve_54 {sc : Nat × (Nat → Int32)} {C : CT} (hC : MonC C) {Q : Int32 → St → Prop} (x1 : Int32) (σ : St) (v : vp_in x1 80 ∧ (vp_in x1 80 ∧ (vp_in (σ 24 (x1).toNatClampNeg) 24 ∧ (vp_in (σ 15 (σ 24 (x1).toNatClampNeg).toNatClampNeg) 4 ∧ ((((sV 1).getD (σ 15 (σ 24 (x1).toNatClampNeg).toNatClampNeg).toNatClampNeg 0) ≤ (σ 28 (x1).toNatClampNeg) → ((0 : Int32) = 0 ∨ (0 : Int32) = 1) ∧ Q 0 σ) ∧ (¬ ((sV 1).getD (σ 15 (σ 24 (x1).toNatClampNeg).toNatClampNeg).toNatClampNeg 0) ≤ (σ 28 (x1).toNatClampNeg) → ((1 : Int32) = 0 ∨ (1 : Int32) = 1) ∧ Q 1 σ)))))) : Ex sc C 2 cd_54 Q 0 [some (.ref 6), some (.int x1)] [] σ := wpn_Ex (cuts := []) hC (fun _ _ _ _ z => z) 21 0 _ _ _ v
set_option maxHeartbeats 20000000 in
set_option maxRecDepth 100000 in
theorem hp_54 {sc : Nat × (Nat → Int32)} {Q : Int32 → St → Prop} {x1 : Int32} {σ : St} (h : Ap (sp_54 x1 σ) Q) : Ex sc CC 2 cd_54 Q 0 [some (.ref 6), some (.int x1)] [] σ := by
  exact ve_54 monCC x1 σ (n_mb h (fun h => n_mb h (fun h => n_mb h (fun h => n_mb h (fun h => n_if h (fun h => n_rb h) (fun h => n_rb h))))))
-- TradeTests$Signals.isMeeting
set_option maxHeartbeats 20000000 in
set_option maxRecDepth 100000 in
theorem ve_56 {sc : Nat × (Nat → Int32)} {C : CT} (hC : MonC C) {Q : Int32 → St → Prop} (x1 x2 : Int32) (σ : St) (v : vp_in x1 80 ∧ (vp_in x2 80 ∧ ((¬ (σ 26 (x1).toNatClampNeg) = (σ 26 (x2).toNatClampNeg) → ((0 : Int32) = 0 ∨ (0 : Int32) = 1) ∧ Q 0 σ) ∧ ((σ 26 (x1).toNatClampNeg) = (σ 26 (x2).toNatClampNeg) → vp_in x1 80 ∧ (vp_in x2 80 ∧ (vp_in x2 80 ∧ ((((σ 27 (x2).toNatClampNeg) + (σ 28 (x2).toNatClampNeg)) ≤ (σ 27 (x1).toNatClampNeg) → ((0 : Int32) = 0 ∨ (0 : Int32) = 1) ∧ Q 0 σ) ∧ (¬ ((σ 27 (x2).toNatClampNeg) + (σ 28 (x2).toNatClampNeg)) ≤ (σ 27 (x1).toNatClampNeg) → vp_in x2 80 ∧ (vp_in x1 80 ∧ (vp_in x1 80 ∧ ((((σ 27 (x1).toNatClampNeg) + (σ 28 (x1).toNatClampNeg)) ≤ (σ 27 (x2).toNatClampNeg) → ((0 : Int32) = 0 ∨ (0 : Int32) = 1) ∧ Q 0 σ) ∧ (¬ ((σ 27 (x1).toNatClampNeg) + (σ 28 (x1).toNatClampNeg)) ≤ (σ 27 (x2).toNatClampNeg) → ((1 : Int32) = 0 ∨ (1 : Int32) = 1) ∧ Q 1 σ)))))))))))) : Ex sc C 2 cd_56 Q 0 [some (.ref 6), some (.int x1), some (.int x2)] [] σ := wpn_Ex (cuts := []) hC (fun _ _ _ _ z => z) 49 0 _ _ _ v
set_option maxHeartbeats 20000000 in
set_option maxRecDepth 100000 in
theorem hp_56 {sc : Nat × (Nat → Int32)} {Q : Int32 → St → Prop} {x1 x2 : Int32} {σ : St} (h : Ap (sp_56 x1 x2 σ) Q) : Ex sc CC 2 cd_56 Q 0 [some (.ref 6), some (.int x1), some (.int x2)] [] σ := by
  exact ve_56 monCC x1 x2 σ (n_mb h (fun h => n_mb h (fun h => n_ne h (fun h => n_mb h (fun h => n_mb h (fun h => n_mb h (fun h => n_if h (fun h => n_rb h) (fun h => n_mb h (fun h => n_mb h (fun h => n_mb h (fun h => n_if h (fun h => n_rb h) (fun h => n_rb h))))))))) (fun h => n_rb h))))
-- java/lang/Integer.bitCount
set_option maxHeartbeats 20000000 in
set_option maxRecDepth 100000 in
theorem ve_59 {sc : Nat × (Nat → Int32)} {C : CT} (hC : MonC C) {Q : Int32 → St → Prop} (x1 : Int32) (σ : St) (v : Q ((((((((x1 - (((x1.toUInt32 >>> ((1 : Int32).toUInt32 &&& Int32.toUInt32 31)).toInt32) &&& 1431655765)) &&& 858993459) + ((((x1 - (((x1.toUInt32 >>> ((1 : Int32).toUInt32 &&& Int32.toUInt32 31)).toInt32) &&& 1431655765)).toUInt32 >>> ((2 : Int32).toUInt32 &&& Int32.toUInt32 31)).toInt32) &&& 858993459)) + (((((x1 - (((x1.toUInt32 >>> ((1 : Int32).toUInt32 &&& Int32.toUInt32 31)).toInt32) &&& 1431655765)) &&& 858993459) + ((((x1 - (((x1.toUInt32 >>> ((1 : Int32).toUInt32 &&& Int32.toUInt32 31)).toInt32) &&& 1431655765)).toUInt32 >>> ((2 : Int32).toUInt32 &&& Int32.toUInt32 31)).toInt32) &&& 858993459)).toUInt32 >>> ((4 : Int32).toUInt32 &&& Int32.toUInt32 31)).toInt32)) &&& 252645135) + (((((((x1 - (((x1.toUInt32 >>> ((1 : Int32).toUInt32 &&& Int32.toUInt32 31)).toInt32) &&& 1431655765)) &&& 858993459) + ((((x1 - (((x1.toUInt32 >>> ((1 : Int32).toUInt32 &&& Int32.toUInt32 31)).toInt32) &&& 1431655765)).toUInt32 >>> ((2 : Int32).toUInt32 &&& Int32.toUInt32 31)).toInt32) &&& 858993459)) + (((((x1 - (((x1.toUInt32 >>> ((1 : Int32).toUInt32 &&& Int32.toUInt32 31)).toInt32) &&& 1431655765)) &&& 858993459) + ((((x1 - (((x1.toUInt32 >>> ((1 : Int32).toUInt32 &&& Int32.toUInt32 31)).toInt32) &&& 1431655765)).toUInt32 >>> ((2 : Int32).toUInt32 &&& Int32.toUInt32 31)).toInt32) &&& 858993459)).toUInt32 >>> ((4 : Int32).toUInt32 &&& Int32.toUInt32 31)).toInt32)) &&& 252645135).toUInt32 >>> ((8 : Int32).toUInt32 &&& Int32.toUInt32 31)).toInt32)) + ((((((((x1 - (((x1.toUInt32 >>> ((1 : Int32).toUInt32 &&& Int32.toUInt32 31)).toInt32) &&& 1431655765)) &&& 858993459) + ((((x1 - (((x1.toUInt32 >>> ((1 : Int32).toUInt32 &&& Int32.toUInt32 31)).toInt32) &&& 1431655765)).toUInt32 >>> ((2 : Int32).toUInt32 &&& Int32.toUInt32 31)).toInt32) &&& 858993459)) + (((((x1 - (((x1.toUInt32 >>> ((1 : Int32).toUInt32 &&& Int32.toUInt32 31)).toInt32) &&& 1431655765)) &&& 858993459) + ((((x1 - (((x1.toUInt32 >>> ((1 : Int32).toUInt32 &&& Int32.toUInt32 31)).toInt32) &&& 1431655765)).toUInt32 >>> ((2 : Int32).toUInt32 &&& Int32.toUInt32 31)).toInt32) &&& 858993459)).toUInt32 >>> ((4 : Int32).toUInt32 &&& Int32.toUInt32 31)).toInt32)) &&& 252645135) + (((((((x1 - (((x1.toUInt32 >>> ((1 : Int32).toUInt32 &&& Int32.toUInt32 31)).toInt32) &&& 1431655765)) &&& 858993459) + ((((x1 - (((x1.toUInt32 >>> ((1 : Int32).toUInt32 &&& Int32.toUInt32 31)).toInt32) &&& 1431655765)).toUInt32 >>> ((2 : Int32).toUInt32 &&& Int32.toUInt32 31)).toInt32) &&& 858993459)) + (((((x1 - (((x1.toUInt32 >>> ((1 : Int32).toUInt32 &&& Int32.toUInt32 31)).toInt32) &&& 1431655765)) &&& 858993459) + ((((x1 - (((x1.toUInt32 >>> ((1 : Int32).toUInt32 &&& Int32.toUInt32 31)).toInt32) &&& 1431655765)).toUInt32 >>> ((2 : Int32).toUInt32 &&& Int32.toUInt32 31)).toInt32) &&& 858993459)).toUInt32 >>> ((4 : Int32).toUInt32 &&& Int32.toUInt32 31)).toInt32)) &&& 252645135).toUInt32 >>> ((8 : Int32).toUInt32 &&& Int32.toUInt32 31)).toInt32)).toUInt32 >>> ((16 : Int32).toUInt32 &&& Int32.toUInt32 31)).toInt32)) &&& 63) σ) : Ex sc C 1 cd_59 Q 0 [some (.int x1)] [] σ := wpn_Ex (cuts := []) hC (fun _ _ _ _ z => z) 43 0 _ _ _ v
set_option maxHeartbeats 20000000 in
set_option maxRecDepth 100000 in
theorem hp_59 {sc : Nat × (Nat → Int32)} {Q : Int32 → St → Prop} {x1 : Int32} {σ : St} (h : Ap (sp_59 x1 σ) Q) : Ex sc CC 1 cd_59 Q 0 [some (.int x1)] [] σ := by
  exact ve_59 monCC x1 σ (n_rt h)
-- TradeTests$Secrets.isVisited
set_option maxHeartbeats 20000000 in
set_option maxRecDepth 100000 in
theorem ve_61 {sc : Nat × (Nat → Int32)} {C : CT} (hC : MonC C) {Q : Int32 → St → Prop} (x1 : Int32) (σ : St) (v : vp_in x1 80 ∧ (((σ 35 (x1).toNatClampNeg) ≤ 0 → ((0 : Int32) = 0 ∨ (0 : Int32) = 1) ∧ Q 0 σ) ∧ (¬ (σ 35 (x1).toNatClampNeg) ≤ 0 → ((1 : Int32) = 0 ∨ (1 : Int32) = 1) ∧ Q 1 σ))) : Ex sc C 2 cd_61 Q 0 [some (.ref 9), some (.int x1)] [] σ := wpn_Ex (cuts := []) hC (fun _ _ _ _ z => z) 10 0 _ _ _ v
set_option maxHeartbeats 20000000 in
set_option maxRecDepth 100000 in
theorem hp_61 {sc : Nat × (Nat → Int32)} {Q : Int32 → St → Prop} {x1 : Int32} {σ : St} (h : Ap (sp_61 x1 σ) Q) : Ex sc CC 2 cd_61 Q 0 [some (.ref 9), some (.int x1)] [] σ := by
  exact ve_61 monCC x1 σ (n_mb h (fun h => n_if h (fun h => n_rb h) (fun h => n_rb h)))
-- TradeTests$Vehicles.ageClass
set_option maxHeartbeats 20000000 in
set_option maxRecDepth 100000 in
theorem ve_65 {sc : Nat × (Nat → Int32)} {C : CT} (hC : MonC C) {Q : Int32 → St → Prop} (x1 x2 : Int32) (σ : St) (v : vp_in x1 24 ∧ (¬ (365 : Int32) = 0 ∧ ((3 ≤ ((x2 - (σ 17 (x1).toNatClampNeg)) / 365) → (6 ≤ ((x2 - (σ 17 (x1).toNatClampNeg)) / 365) → (10 ≤ ((x2 - (σ 17 (x1).toNatClampNeg)) / 365) → Q 3 σ) ∧ (¬ 10 ≤ ((x2 - (σ 17 (x1).toNatClampNeg)) / 365) → Q 2 σ)) ∧ (¬ 6 ≤ ((x2 - (σ 17 (x1).toNatClampNeg)) / 365) → Q 1 σ)) ∧ (¬ 3 ≤ ((x2 - (σ 17 (x1).toNatClampNeg)) / 365) → Q 0 σ)))) : Ex sc C 1 cd_65 Q 0 [some (.ref 1), some (.int x1), some (.int x2), none] [] σ := wpn_Ex (cuts := []) hC (fun _ _ _ _ z => z) 22 0 _ _ _ v
set_option maxHeartbeats 20000000 in
set_option maxRecDepth 100000 in
theorem hp_65 {sc : Nat × (Nat → Int32)} {Q : Int32 → St → Prop} {x1 x2 : Int32} {σ : St} (h : Ap (sp_65 x1 x2 σ) Q) : Ex sc CC 1 cd_65 Q 0 [some (.ref 1), some (.int x1), some (.int x2), none] [] σ := by
  exact ve_65 monCC x1 x2 σ (n_mb h (fun h => n_mb h (fun h => n_if h (fun h => n_if h (fun h => n_if h (fun h => n_rt h) (fun h => n_rt h)) (fun h => n_rt h)) (fun h => n_rt h))))
-- TradeTests$Rates.cellShare
set_option maxHeartbeats 20000000 in
set_option maxRecDepth 100000 in
theorem ve_67 {sc : Nat × (Nat → Int32)} {C : CT} (hC : MonC C) {Q : Int32 → St → Prop} (x1 : Int32) (σ : St) (v : vp_in x1 16 ∧ (((σ 43 (x1).toNatClampNeg) ≤ 0 → Q (-1) σ) ∧ (¬ (σ 43 (x1).toNatClampNeg) ≤ 0 → vp_in x1 16 ∧ (vp_in x1 16 ∧ (¬ (σ 43 (x1).toNatClampNeg) = 0 ∧ (Q (((1000 : Int32) * (σ 44 (x1).toNatClampNeg)) / (σ 43 (x1).toNatClampNeg)) σ)))))) : Ex sc C 1 cd_67 Q 0 [some (.ref 7), some (.int x1)] [] σ := wpn_Ex (cuts := []) hC (fun _ _ _ _ z => z) 19 0 _ _ _ v
set_option maxHeartbeats 20000000 in
set_option maxRecDepth 100000 in
theorem hp_67 {sc : Nat × (Nat → Int32)} {Q : Int32 → St → Prop} {x1 : Int32} {σ : St} (h : Ap (sp_67 x1 σ) Q) : Ex sc CC 1 cd_67 Q 0 [some (.ref 7), some (.int x1)] [] σ := by
  exact ve_67 monCC x1 σ (n_mb h (fun h => n_if h (fun h => n_rt h) (fun h => n_mb h (fun h => n_mb h (fun h => n_mb h (fun h => n_rt h))))))
-- TradeTests$Rates.more
set_option maxHeartbeats 20000000 in
set_option maxRecDepth 100000 in
theorem ve_68 {sc : Nat × (Nat → Int32)} {C : CT} (hC : MonC C) {Q : Int32 → St → Prop}  (σ : St) (v : Q (((1000 : Int32) * (σ 7 6)) - (σ 7 7)) σ) : Ex sc C 1 cd_68 Q 0 [some (.ref 7)] [] σ := wpn_Ex (cuts := []) hC (fun _ _ _ _ z => z) 9 0 _ _ _ v
set_option maxHeartbeats 20000000 in
set_option maxRecDepth 100000 in
theorem hp_68 {sc : Nat × (Nat → Int32)} {Q : Int32 → St → Prop}  {σ : St} (h : Ap (sp_68  σ) Q) : Ex sc CC 1 cd_68 Q 0 [some (.ref 7)] [] σ := by
  exact ve_68 monCC  σ (n_rt h)
