/-! the pure machine: cells hold numbers; an instruction is a predicate transformer -/
abbrev St : Type := Nat → Nat → Int32
def up (σ : St) (c i : Nat) (v : Int32) : St := fun c' => if c' = c then upd (σ c) i v else σ c'
abbrev LV : Type := List (Option Value)
/-- an instruction: pc, length, itself, its number, three operands, the branches of a switch -/
abbrev CE : Type := Nat × Nat × Instr × Int32 × Nat × Nat × Nat × List (Int32 × Nat)
abbrev KT : Type := Nat → LV → List Value → St → Prop
abbrev CT : Type := Nat → List Value → St → (Int32 → St → Prop) → Prop
def i_un (f : Int32 → Int32) (K : List Value → Prop) (st : List Value) : Prop := match st with
  | .int x :: r => K (.int (f x) :: r)
  | _ => False
def i_bin (f : Int32 → Int32 → Int32) (K : List Value → Prop) (st : List Value) : Prop := match st with
  | .int y :: .int x :: r => K (.int (f x y) :: r)
  | _ => False
def i_div (f : Int32 → Int32 → Int32) (K : List Value → Prop) (st : List Value) : Prop := match st with
  | .int y :: .int x :: r => ¬ y = 0 ∧ K (.int (f x y) :: r)
  | _ => False
def l_bin (f : Int64 → Int64 → Int64) (K : List Value → Prop) (st : List Value) : Prop := match st with
  | .long y :: .long x :: r => K (.long (f x y) :: r)
  | _ => False
def l_div (f : Int64 → Int64 → Int64) (K : List Value → Prop) (st : List Value) : Prop := match st with
  | .long y :: .long x :: r => ¬ y = 0 ∧ K (.long (f x y) :: r)
  | _ => False
def l_cmp (K : List Value → Prop) (st : List Value) : Prop := match st with
  | .long y :: .long x :: r => K (.int (lg_cmp x y) :: r)
  | _ => False
def c_i2l (K : List Value → Prop) (st : List Value) : Prop := match st with
  | .int x :: r => K (.long x.toInt64 :: r)
  | _ => False
def c_l2i (K : List Value → Prop) (st : List Value) : Prop := match st with
  | .long x :: r => K (.int x.toInt32 :: r)
  | _ => False
def i_if (B : Int32 → Prop) (T F : List Value → Prop) (st : List Value) : Prop := match st with
  | .int x :: r => (B x → T r) ∧ (¬ B x → F r)
  | _ => False
def i_ne (T F : List Value → Prop) (st : List Value) : Prop := match st with
  | .int x :: r => (¬ x = 0 → T r) ∧ (x = 0 → F r)
  | _ => False
def i_cmp (B : Int32 → Int32 → Prop) (T F : List Value → Prop) (st : List Value) : Prop := match st with
  | .int y :: .int x :: r => (B x y → T r) ∧ (¬ B x y → F r)
  | _ => False
def i_cne (T F : List Value → Prop) (st : List Value) : Prop := match st with
  | .int y :: .int x :: r => (¬ x = y → T r) ∧ (x = y → F r)
  | _ => False
def p_ldi (lv : LV) (a : Nat) (K : Value → Prop) : Prop := match lv[a]? with
  | some (some (.int x)) => K (.int x)
  | _ => False
def p_lda (lv : LV) (a : Nat) (K : Value → Prop) : Prop := match lv[a]? with
  | some (some (.ref x)) => K (.ref x)
  | _ => False
def p_ldl (lv : LV) (a : Nat) (K : Value → Prop) : Prop := match lv[a]? with
  | some (some (.long x)) => K (.long x)
  | _ => False
def isL (o : Option (Option Value)) : Bool := match o with
  | some (some (.long _)) => true
  | some (some (.double _)) => true
  | _ => false
def hitL (lv : LV) (a : Nat) : Bool := match a with
  | 0 => false
  | b + 1 => isL lv[b]?
def p_sti (lv : LV) (a : Nat) (K : LV → List Value → Prop) (st : List Value) : Prop := match st with
  | .int x :: r => (match hitL lv a with | true => False | false => K (lv.set a (some (.int x))) r)
  | _ => False
def p_sta (lv : LV) (a : Nat) (K : LV → List Value → Prop) (st : List Value) : Prop := match st with
  | .ref x :: r => (match hitL lv a with | true => False | false => K (lv.set a (some (.ref x))) r)
  | _ => False
def p_stl (lv : LV) (a : Nat) (K : LV → List Value → Prop) (st : List Value) : Prop := match st with
  | .long x :: r => (match hitL lv a with | true => False | false => K ((lv.set (a + 1) none).set a (some (.long x))) r)
  | _ => False
def p_inc (lv : LV) (a : Nat) (n : Int32) (K : LV → Prop) : Prop := match lv[a]? with
  | some (some (.int x)) => (match hitL lv a with | true => False | false => K (lv.set a (some (.int (x + n)))))
  | _ => False
/-- arrays outside the world: the static ones, then the script -/
def sAr (sc : Nat × (Nat → Int32)) (c : Nat) : Option (Nat × (Nat → Int32)) := match c with
  | 1000 => some (4, fun j => (sV 0).getD j 0)
  | 1001 => some (4, fun j => (sV 1).getD j 0)
  | 1002 => some (3, fun j => (sV 2).getD j 0)
  | 1003 => some sc
  | _ => none
def p_iald (sc : Nat × (Nat → Int32)) (K : List Value → Prop) (st : List Value) (σ : St) : Prop := match st with
  | .int i :: .ref c :: r => (match lay[c]? with
    | some (1, n, _) => vp_in i n ∧ K (.int (σ c i.toNatClampNeg) :: r)
    | some _ => False
    | none => (match sAr sc c with
      | some q => vp_in i q.1 ∧ K (.int (q.2 i.toNatClampNeg) :: r)
      | none => False))
  | _ => False
def p_zald (K : List Value → Prop) (st : List Value) (σ : St) : Prop := match st with
  | .int i :: .ref c :: r => (match lay[c]? with
    | some (2, n, _) => vp_in i n ∧ K (.int (σ c i.toNatClampNeg) :: r)
    | _ => False)
  | _ => False
def p_iast (K : List Value → St → Prop) (st : List Value) (σ : St) : Prop := match st with
  | .int x :: .int i :: .ref c :: r => (match lay[c]? with
    | some (1, n, _) => vp_in i n ∧ K r (up σ c i.toNatClampNeg x)
    | _ => False)
  | _ => False
def p_zast (K : List Value → St → Prop) (st : List Value) (σ : St) : Prop := match st with
  | .int x :: .int i :: .ref c :: r => (match lay[c]? with
    | some (2, n, _) => vp_in i n ∧ (x = 0 ∨ x = 1) ∧ K r (up σ c i.toNatClampNeg x)
    | _ => False)
  | _ => False
def p_len (sc : Nat × (Nat → Int32)) (K : List Value → Prop) (st : List Value) : Prop := match st with
  | .ref c :: r => (match lay[c]? with
    | some _ => False
    | none => (match sAr sc c with
      | some q => K (.int (Int32.ofNat q.1) :: r)
      | none => False))
  | _ => False
def p_get (ci k : Nat) (K : List Value → Prop) (st : List Value) (σ : St) : Prop := match st with
  | .ref c :: r => (match lay[c]? with
    | some (0, cj, fs) => (match Nat.beq cj ci with
      | true => (match fs[k]? with
        | some (some q) => K (.ref q :: r)
        | some none => K (.int (σ c k) :: r)
        | none => False)
      | false => False)
    | _ => False)
  | _ => False
def p_put (ci k : Nat) (K : List Value → St → Prop) (st : List Value) (σ : St) : Prop := match st with
  | .int x :: .ref c :: r => (match lay[c]? with
    | some (0, cj, fs) => (match Nat.beq cj ci with
      | true => (match fs[k]? with
        | some none => K r (up σ c k x)
        | _ => False)
      | false => False)
    | _ => False)
  | _ => False
def p_sw (sw : List (Int32 × Nat)) (x : Int32) (K : Nat → Prop) (a : Nat) : Prop := match sw with
  | [] => K a
  | q :: r => (x = q.1 → K q.2) ∧ (¬ x = q.1 → p_sw r x K a)
def p_swi (sw : List (Int32 × Nat)) (K : Nat → List Value → Prop) (a : Nat) (st : List Value) : Prop := match st with
  | .int x :: r => p_sw sw x (fun t => K t r) a
  | _ => False
def p_dup (K : List Value → Prop) (st : List Value) : Prop := match st with
  | v :: r => (match Nat.beq v.category 1 with | true => K (v :: v :: r) | false => False)
  | _ => False
def p_dup2 (K : List Value → Prop) (st : List Value) : Prop := match st with
  | v :: w :: r => (match Nat.beq v.category 1 && Nat.beq w.category 1 with | true => K (v :: w :: v :: w :: r) | false => False)
  | _ => False
def p_pop (K : List Value → Prop) (st : List Value) : Prop := match st with
  | v :: r => (match Nat.beq v.category 1 with | true => K r | false => False)
  | _ => False
/-- the first argument is an object of the class ci -/
def rcv (ci : Nat) (as : List Value) : Bool := match as with
  | .ref c :: _ => (match lay[c]? with
    | some (0, cj, _) => Nat.beq cj ci
    | _ => false)
  | _ => false
def cats (st : List Value) : Nat := (st.map fun v => v.category).sum
/-- a call: method a, b arguments; d 1 static -/
def p_call (C : CT) (vd : Bool) (a b : Nat) (ok : List Value → Bool) (K : List Value → St → Prop) (st : List Value) (σ : St) : Prop :=
  match Nat.ble b st.length && Nat.ble (cats (st.drop b)) 8 && ok (st.take b).reverse with
  | true => C a (st.take b).reverse σ (fun r σ' => K (bif vd then st.drop b else .int r :: st.drop b) σ')
  | false => False
def absI (x : Int32) : Int32 := if 0 ≤ x then x else 0 - x
def maxI (x y : Int32) : Int32 := if x < y then y else x
def p_ret (rk : Nat) (Q : Int32 → Prop) (st : List Value) : Prop := match st with
  | [.int x] => (match rk with | 0 => False | 1 => Q x | _ => (x = 0 ∨ x = 1) ∧ Q x)
  | _ => False
def p_rtv (rk : Nat) (Q : Prop) (st : List Value) : Prop := match st with
  | [] => (match rk with | 0 => Q | _ => False)
  | _ => False
/-- one instruction; rk: the method's answer (0 none, 1 int, 2 boolean) -/
def stp (sc : Nat × (Nat → Int32)) (C : CT) (rk : Nat) (Q : Int32 → St → Prop) (K : KT) (q : CE) (lv : LV) (st : List Value) (σ : St) : Prop :=
  match q with
  | (pc, len, ins, imm, a, b, d, sw) => (match ins with
    | .iconst _ => K (pc + len) lv (.int imm :: st) σ
    | .bipush _ => K (pc + len) lv (.int imm :: st) σ
    | .sipush _ => K (pc + len) lv (.int imm :: st) σ
    | .ldc _ => K (pc + len) lv (.int imm :: st) σ
    | .ldc_w _ => K (pc + len) lv (.int imm :: st) σ
    | .lconst _ => K (pc + len) lv (.long imm.toInt64 :: st) σ
    | .ldc2_w _ => K (pc + len) lv (.long imm.toInt64 :: st) σ
    | .iload_n _ => p_ldi lv a (fun v => K (pc + len) lv (v :: st) σ)
    | .iload _ => p_ldi lv a (fun v => K (pc + len) lv (v :: st) σ)
    | .aload_n _ => p_lda lv a (fun v => K (pc + len) lv (v :: st) σ)
    | .aload _ => p_lda lv a (fun v => K (pc + len) lv (v :: st) σ)
    | .lload_n _ => p_ldl lv a (fun v => K (pc + len) lv (v :: st) σ)
    | .lload _ => p_ldl lv a (fun v => K (pc + len) lv (v :: st) σ)
    | .istore_n _ => p_sti lv a (fun lv st => K (pc + len) lv st σ) st
    | .istore _ => p_sti lv a (fun lv st => K (pc + len) lv st σ) st
    | .astore_n _ => p_sta lv a (fun lv st => K (pc + len) lv st σ) st
    | .astore _ => p_sta lv a (fun lv st => K (pc + len) lv st σ) st
    | .lstore_n _ => p_stl lv a (fun lv st => K (pc + len) lv st σ) st
    | .lstore _ => p_stl lv a (fun lv st => K (pc + len) lv st σ) st
    | .iinc _ _ => p_inc lv a imm (fun lv => K (pc + len) lv st σ)
    | .iadd => i_bin (fun x y => x + y) (fun st => K (pc + len) lv st σ) st
    | .isub => i_bin (fun x y => x - y) (fun st => K (pc + len) lv st σ) st
    | .imul => i_bin (fun x y => x * y) (fun st => K (pc + len) lv st σ) st
    | .iand => i_bin (fun x y => x &&& y) (fun st => K (pc + len) lv st σ) st
    | .ior => i_bin (fun x y => x ||| y) (fun st => K (pc + len) lv st σ) st
    | .ixor => i_bin (fun x y => x ^^^ y) (fun st => K (pc + len) lv st σ) st
    | .ishl => i_bin (fun x y => x <<< (y &&& 31)) (fun st => K (pc + len) lv st σ) st
    | .ishr => i_bin (fun x y => x >>> (y &&& 31)) (fun st => K (pc + len) lv st σ) st
    | .iushr => i_bin (fun x y => (x.toUInt32 >>> (y.toUInt32 &&& Int32.toUInt32 31)).toInt32) (fun st => K (pc + len) lv st σ) st
    | .idiv => i_div (fun x y => x / y) (fun st => K (pc + len) lv st σ) st
    | .irem => i_div (fun x y => x - x / y * y) (fun st => K (pc + len) lv st σ) st
    | .ineg => i_un (fun x => -x) (fun st => K (pc + len) lv st σ) st
    | .lsub => l_bin (fun x y => x - y) (fun st => K (pc + len) lv st σ) st
    | .lmul => l_bin (fun x y => x * y) (fun st => K (pc + len) lv st σ) st
    | .ldiv => l_div (fun x y => x / y) (fun st => K (pc + len) lv st σ) st
    | .lcmp => l_cmp (fun st => K (pc + len) lv st σ) st
    | .i2l => c_i2l (fun st => K (pc + len) lv st σ) st
    | .l2i => c_l2i (fun st => K (pc + len) lv st σ) st
    | .dup => p_dup (fun st => K (pc + len) lv st σ) st
    | .dup2 => p_dup2 (fun st => K (pc + len) lv st σ) st
    | .pop => p_pop (fun st => K (pc + len) lv st σ) st
    | .goto _ => K a lv st σ
    | .ifCond .eq _ => i_if (fun x => x = 0) (fun st => K a lv st σ) (fun st => K (pc + len) lv st σ) st
    | .ifCond .ne _ => i_ne (fun st => K a lv st σ) (fun st => K (pc + len) lv st σ) st
    | .ifCond .lt _ => i_if (fun x => x < 0) (fun st => K a lv st σ) (fun st => K (pc + len) lv st σ) st
    | .ifCond .ge _ => i_if (fun x => 0 ≤ x) (fun st => K a lv st σ) (fun st => K (pc + len) lv st σ) st
    | .ifCond .gt _ => i_if (fun x => 0 < x) (fun st => K a lv st σ) (fun st => K (pc + len) lv st σ) st
    | .ifCond .le _ => i_if (fun x => x ≤ 0) (fun st => K a lv st σ) (fun st => K (pc + len) lv st σ) st
    | .if_icmp .eq _ => i_cmp (fun x y => x = y) (fun st => K a lv st σ) (fun st => K (pc + len) lv st σ) st
    | .if_icmp .ne _ => i_cne (fun st => K a lv st σ) (fun st => K (pc + len) lv st σ) st
    | .if_icmp .lt _ => i_cmp (fun x y => x < y) (fun st => K a lv st σ) (fun st => K (pc + len) lv st σ) st
    | .if_icmp .ge _ => i_cmp (fun x y => y ≤ x) (fun st => K a lv st σ) (fun st => K (pc + len) lv st σ) st
    | .if_icmp .gt _ => i_cmp (fun x y => y < x) (fun st => K a lv st σ) (fun st => K (pc + len) lv st σ) st
    | .if_icmp .le _ => i_cmp (fun x y => x ≤ y) (fun st => K a lv st σ) (fun st => K (pc + len) lv st σ) st
    | .tableswitch _ _ _ _ => p_swi sw (fun t st => K t lv st σ) a st
    | .lookupswitch _ _ => p_swi sw (fun t st => K t lv st σ) a st
    | .iaload => p_iald sc (fun st => K (pc + len) lv st σ) st σ
    | .baload => p_zald (fun st => K (pc + len) lv st σ) st σ
    | .iastore => p_iast (fun st σ => K (pc + len) lv st σ) st σ
    | .bastore => p_zast (fun st σ => K (pc + len) lv st σ) st σ
    | .arraylength => p_len sc (fun st => K (pc + len) lv st σ) st
    | .getfield _ => p_get a b (fun st => K (pc + len) lv st σ) st σ
    | .putfield _ => p_put a b (fun st σ => K (pc + len) lv st σ) st σ
    | .getstatic _ => K (pc + len) lv (.ref (1000 + a) :: st) σ
    | .invokevirtual _ => p_call C (Nat.beq (mRk a) 0) a b (rcv d) (fun st σ => K (pc + len) lv st σ) st σ
    | .invokestatic _ => (match Nat.beq d 53, Nat.beq d 106 with
      | true, _ => (match Nat.ble (cats st) 8 with | true => i_un absI (fun st => K (pc + len) lv st σ) st | false => False)
      | false, true => (match Nat.ble (cats st) 8 with | true => i_bin maxI (fun st => K (pc + len) lv st σ) st | false => False)
      | false, false => p_call C (Nat.beq (mRk a) 0) a b (fun _ => true) (fun st σ => K (pc + len) lv st σ) st σ)
    | .ireturn => p_ret rk (fun x => Q x σ) st
    | .return_ => p_rtv rk (Q 0 σ) st
    | _ => False)
def fnd (cd : List CE) (pc : Nat) : Option CE := match cd with
  | [] => none
  | q :: r => (match Nat.beq q.1 pc with | true => some q | false => fnd r pc)
def stC (sc : Nat × (Nat → Int32)) (C : CT) (rk : Nat) (cd : List CE) (Q : Int32 → St → Prop) (K : KT) : KT := fun pc lv st σ => match fnd cd pc with
  | some q => stp sc C rk Q K q lv st σ
  | none => False
/-- forget what some places hold -/
def fg : List Bool → LV → LV
  | b :: m, o :: l => (match b with | true => o | false => none) :: fg m l
  | _, l => l
/-- the least predicate closed under the steps, and under forgetting -/
def Ex (sc : Nat × (Nat → Int32)) (C : CT) (rk : Nat) (cd : List CE) (Q : Int32 → St → Prop) : KT := fun pc lv st σ => ∀ X : KT, (∀ pc lv st σ, stC sc C rk cd Q X pc lv st σ → X pc lv st σ) → (∀ pc m lv st σ, X pc (fg m lv) st σ → X pc lv st σ) → X pc lv st σ
/-- n steps, or fewer up to a cut -/
def wpn (sc : Nat × (Nat → Int32)) (C : CT) (rk : Nat) (cd : List CE) (cuts : List Nat) (Q : Int32 → St → Prop) (K : KT) : Nat → KT
  | 0 => K
  | n + 1 => fun pc lv st σ => (match cuts.any (fun c => Nat.beq c pc) with
    | true => K pc lv st σ
    | false => stC sc C rk cd Q (wpn sc C rk cd cuts Q K n) pc lv st σ)
def MonC (C : CT) : Prop := ∀ (k : Nat) (as : List Value) (σ : St) (Q Q' : Int32 → St → Prop), (∀ r σ', Q r σ' → Q' r σ') → C k as σ Q → C k as σ Q'
