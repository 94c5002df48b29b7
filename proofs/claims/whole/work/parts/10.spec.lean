/-! answers as functions: what must hold, the answer, the cells behind it -/
abbrev MR : Type := Prop × Int32 × St
def Ap (t : MR) (Q : Int32 → St → Prop) : Prop := t.1 ∧ Q t.2.1 t.2.2
def rt (r : Int32) (σ : St) : MR := (True, r, σ)
def mb (c : Prop) (t : MR) : MR := (c ∧ t.1, t.2)
def bn (t : MR) (f : Int32 → St → MR) : MR := (t.1 ∧ (f t.2.1 t.2.2).1, (f t.2.1 t.2.2).2)
def bad : MR := (False, 0, fun _ _ => 0)
theorem n_if {c : Prop} [Decidable c] {A B : MR} {Q : Int32 → St → Prop} {T F : Prop} (h : Ap (if c then A else B) Q) (hT : Ap A Q → T) (hF : Ap B Q → F) : (c → T) ∧ (¬ c → F) := ⟨fun z => hT (by rwa [if_pos z] at h), fun z => hF (by rwa [if_neg z] at h)⟩
theorem n_ne {c : Prop} [Decidable c] {A B : MR} {Q : Int32 → St → Prop} {T F : Prop} (h : Ap (if c then A else B) Q) (hT : Ap A Q → T) (hF : Ap B Q → F) : (¬ c → F) ∧ (c → T) := ⟨fun z => hF (by rwa [if_neg z] at h), fun z => hT (by rwa [if_pos z] at h)⟩
theorem n_mb {c : Prop} {A : MR} {Q : Int32 → St → Prop} {T : Prop} (h : Ap (mb c A) Q) (hT : Ap A Q → T) : c ∧ T := ⟨h.1.1, hT ⟨h.1.2, h.2⟩⟩
theorem n_bn {t : MR} {f : Int32 → St → MR} {Q V : Int32 → St → Prop} (h : Ap (bn t f) Q) (hV : ∀ r σ, Ap (f r σ) Q → V r σ) : Ap t V := ⟨h.1.1, hV _ _ ⟨h.1.2, h.2⟩⟩
theorem n_rt {r : Int32} {σ : St} {Q : Int32 → St → Prop} (h : Ap (rt r σ) Q) : Q r σ := h.2
theorem n_rb {c : Prop} {r : Int32} {σ : St} {Q : Int32 → St → Prop} (h : Ap (mb c (rt r σ)) Q) : c ∧ Q r σ := ⟨h.1.1, h.2⟩
theorem n_no {Q : Int32 → St → Prop} {X : Prop} (h : Ap bad Q) : X := h.1.elim
