/-! the law from its entry to its loop; what is left is pure -/
def isRH (as : List Value) : Bool := match as with
  | .ref _ :: _ => true
  | _ => false
def subR (sub : Nat → List Value → List PE → Option (List PE)) (j : Nat) (as : List Value) (E : List PE) : Option (List PE) := match isRH as with
  | true => subG sub j as E
  | false => none
theorem subR_met {l : Launch} {dC : Nat → ClassId} {dI : Nat → Nat → Nat} {cI cZ : ClassId} {sub : Nat → List Value → List PE → Option (List PE)} {d0 : Nat} (hsub : ∀ j as E E', sub j as E = some E' → j < 13 → MetC l dC dI cI cZ j d0 as E E' ∧ ∃ x as', as = Value.ref x :: as') : ∀ j as E E', subR sub j as E = some E' → j < 13 → MetC l dC dI cI cZ j (d0 + 1) as E E' ∧ ∃ x as', as = Value.ref x :: as' := by
  intro j as E E' h hj
  unfold subR at h
  split at h
  · rename_i hr
    refine ⟨metC_of hsub hj h, ?_⟩
    unfold isRH at hr
    split at hr
    · exact ⟨_, _, rfl⟩
    · cases hr
  · cases h
def s1 : Nat → List Value → List PE → Option (List PE) := subR (fun _ _ _ => none)
def s2 : Nat → List Value → List PE → Option (List PE) := subR s1
theorem s2_met {l : Launch} {dC : Nat → ClassId} {dI : Nat → Nat → Nat} {cI cZ : ClassId} : ∀ j as E E', s2 j as E = some E' → j < 13 → MetC l dC dI cI cZ j 2 as E E' ∧ ∃ x as', as = Value.ref x :: as' := subR_met (subR_met (d0 := 0) (fun _ _ _ _ h => by cases h))
set_option maxRecDepth 100000 in
theorem s2_0 : s2 0 [.ref 0] [(0, 0, dfl 0, [])] = some EF1 := eqO_ok (by decide +kernel)
set_option maxRecDepth 100000 in
theorem s2_12 : s2 12 [.ref 49] (EF1 ++ [(0, 12, dfl 12, [])]) = some EF2 := eqO_ok (by decide +kernel)
/-- the cells at the start -/
def σ0 : St := fun c => match c with
  | 46 => fI [(2, 20), (1, 90), (0, 365)]
  | 12 => fI [(13, 20), (12, 90), (11, 365)]
  | _ => fI []
def adW (ad : Nat → Nat) (t0 t1 t2 b : Nat) (c : Nat) : Nat := match c with
  | 1000 => t0
  | 1001 => t1
  | 1002 => t2
  | 1003 => b
  | c => ad (alL.getD c 0)
set_option maxRecDepth 100000 in
theorem wE_wW {cI cZ : ClassId} {ad : Nat → Nat} {t0 t1 t2 b : Nat} : alL.map (fun i => (wE cI cZ ad EF2)[i]?) = (wW cI cZ (adW ad t0 t1 t2 b) σ0).map some := rfl
theorem fm_of {α β : Type} {f : α → Option β} : ∀ {l : List α} {r : List β}, l.map f = r.map some → l.filterMap f = r
  | [], [], _ => rfl
  | a :: l, b :: r, h => by
    simp only [List.map_cons, List.cons.injEq] at h
    rw [List.filterMap_cons, h.1, fm_of h.2]
  | [], _ :: _, h => by cases h
  | _ :: _, [], h => by cases h
theorem alL_nd : va_nd alL = true := by decide +kernel
