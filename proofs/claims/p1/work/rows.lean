section
/-! A machine of worlds (ab_): what a method does to a list of cells, as a function. References are places in that list. -/
abbrev ab_C : Type := List Int32 ⊕ (List Int64 ⊕ (List (Option Nat) ⊕ (Nat × List Value)))
abbrev ab_L : Type := List (Option Value)
abbrev ab_S : Type := Nat × ab_L × List Value × List ab_C
abbrev ab_K : Type := Nat × Nat × Nat
abbrev ab_I : Type := Instr × Nat × ab_K × List Nat
/-- a method: its name, bytes, locals, answer, class, number of arguments, whether it makes objects, code -/
abbrev ab_D : Type := MethodName × ByteArray × Nat × Option FieldType × Nat × Nat × Bool × List (List (Option ab_I))
/-- a class: its name, fields, how many, their types -/
abbrev ab_T : Type := String × u_T × Nat × (Nat → FieldType)
abbrev ab_Q : Type := ClassId × ClassId × ClassId
def ab_v (ad : Nat → Nat) : Value → Value
  | .ref k => .ref (ad k)
  | v => v
def ab_e (K : ab_Q) (ad : Nat → Nat) : ab_C → va_E
  | .inl l => .inl (K.1, l.length, .inl (fun j => l.getD j 0))
  | .inr (.inl l) => .inl (K.2.1, l.length, .inr (.inl (fun j => l.getD j 0)))
  | .inr (.inr (.inl l)) => .inl (K.2.2, l.length, .inr (.inr (.inr (.inr (fun j => (l.getD j none).map ad)))))
  | .inr (.inr (.inr o)) => .inr (o.1, o.2.map (ab_v ad))
def ab_w (K : ab_Q) (ad : Nat → Nat) : Nat → List ab_C → va_W
  | _, [] => []
  | n, c :: r => (ad n, ab_e K ad c) :: ab_w K ad (n + 1) r
def ab_sc : ab_C → Nat
  | .inl l => l.length
  | .inr (.inl l) => l.length
  | .inr (.inr (.inl l)) => l.length
  | .inr (.inr (.inr o)) => o.2.length
def ab_sz (cs : List ab_C) : Nat := (cs.map ab_sc).sum
-- references are places that are there
def ab_fv (n : Nat) : Value → Bool
  | .ref k => decide (k < n ∨ 1000000 ≤ k)
  | _ => true
def ab_fo (n : Nat) : Option Value → Bool
  | some v => ab_fv n v
  | none => true
def ab_fc (n : Nat) : ab_C → Bool
  | .inl _ => true
  | .inr (.inl _) => true
  | .inr (.inr (.inl l)) => l.all (fun o => match o with | some k => decide (k < n) | none => true)
  | .inr (.inr (.inr o)) => o.2.all (ab_fv n)
-- steps that touch the stack alone
def ab_tg (pc : Nat) (off : Int) : Option Nat := match (pc : Int) + off with
  | .ofNat t => some t
  | .negSucc _ => none
def ab_cn (c : ClassFile.Cond) (x y : Int32) : Bool := match c with
  | .eq => decide (x = y)
  | .ne => decide (¬ x = y)
  | .lt => decide (x < y)
  | .ge => decide (y ≤ x)
  | .gt => decide (y < x)
  | .le => decide (x ≤ y)
def ab_i2 (ins : Instr) (x y : Int32) : Option Int32 := match ins with
  | .iadd => some (x + y)
  | .isub => some (x - y)
  | .imul => some (x * y)
  | .iand => some (x &&& y)
  | .ior => some (x ||| y)
  | .ixor => some (x ^^^ y)
  | .idiv => if y = 0 then none else some (x / y)
  | .irem => if y = 0 then none else some (x - x / y * y)
  | .ishl => some (x <<< (y &&& 31))
  | .ishr => some (x >>> (y &&& 31))
  | .iushr => some (x.toUInt32 >>> (y.toUInt32 &&& Int32.toUInt32 31)).toInt32
  | _ => none
def ab_i1 (ins : Instr) (x : Int32) : Option Value := match ins with
  | .ineg => some (.int (-x))
  | .i2l => some (.long x.toInt64)
  | .i2b => some (.int x.toInt8.toInt32)
  | .i2s => some (.int x.toInt16.toInt32)
  | .i2c => some (.int (x.toUInt32 % 65536).toInt32)
  | _ => none
def ab_ln (ins : Instr) : Nat := match ins with
  | .tableswitch .. => 0
  | .lookupswitch .. => 0
  | .bipush _ | .iload _ | .aload _ | .lload _ | .istore _ | .astore _ | .lstore _ | .newarray _ | .ldc _ => 2
  | .sipush _ | .goto _ | .ifCond .. | .if_icmp .. | .iinc .. | .getfield _ | .putfield _ | .getstatic _ | .invokevirtual _ | .invokestatic _ | .invokespecial _ | .new _ | .anewarray _ | .ldc_w _ | .ldc2_w _ => 3
  | _ => 1
def ab_pu (ins : Instr) (pc : Nat) (st : List Value) : Option (Nat × List Value) := match ins with
  | .iconst n => some (pc + 1, .int (Int32.ofInt n) :: st)
  | .bipush n => some (pc + 2, .int (Int8.ofInt n).toInt32 :: st)
  | .sipush n => some (pc + 3, .int (Int16.ofInt n).toInt32 :: st)
  | .lconst n => some (pc + 1, .long (Int64.ofNat n) :: st)
  | .dup => match st with
    | v :: r => if v.category = 1 then some (pc + 1, v :: v :: r) else none
    | _ => none
  | .pop => match st with
    | v :: r => if v.category = 1 then some (pc + 1, r) else none
    | _ => none
  | .dup2 => match st with
    | v :: w :: r => if v.category = 1 ∧ w.category = 1 then some (pc + 1, v :: w :: v :: w :: r) else none
    | _ => none
  | .dup_x1 => match st with
    | v :: w :: r => if v.category = 1 ∧ w.category = 1 then some (pc + 1, v :: w :: v :: r) else none
    | _ => none
  | .goto off => match ab_tg pc off with
    | some t => some (t, st)
    | none => none
  | .ifCond c off => match st with
    | .int x :: r => match ab_tg pc off with
      | some t => some (cond (ab_cn c x 0) t (pc + 3), r)
      | none => none
    | _ => none
  | .if_icmp c off => match st with
    | .int y :: .int x :: r => match ab_tg pc off with
      | some t => some (cond (ab_cn c x y) t (pc + 3), r)
      | none => none
    | _ => none
  | .l2i => match st with
    | .long x :: r => some (pc + 1, .int x.toInt32 :: r)
    | _ => none
  | .lshl => match st with
    | .int y :: .long x :: r => some (pc + 1, .long (x <<< (y.toInt64 &&& 63)) :: r)
    | _ => none
  | .lor => match st with
    | .long y :: .long x :: r => some (pc + 1, .long (x ||| y) :: r)
    | _ => none
  | .land => match st with
    | .long y :: .long x :: r => some (pc + 1, .long (x &&& y) :: r)
    | _ => none
  | .lcmp => match st with
    | .long y :: .long x :: r => some (pc + 1, .int (lg_cmp x y) :: r)
    | _ => none
  | .tableswitch dflt lo hi offs => match st with
    | .int x :: r => if x.toInt < lo ∨ hi < x.toInt then (match ab_tg pc dflt with
        | some t => some (t, r)
        | none => none) else (match offs[(x.toInt - lo).toNat]? with
        | some off => (match ab_tg pc off with
          | some t => some (t, r)
          | none => none)
        | none => none)
    | _ => none
  | .lookupswitch dflt ps => match st with
    | .int x :: r => if (ps.toList.zip (ps.toList.drop 1)).all (fun (a, next) => a.1 < next.1) = true then (match ab_tg pc (Op.lookupswitch.offset ps.toList dflt x.toInt) with
        | some t => some (t, r)
        | none => none) else none
    | _ => none
  | ins => match st with
    | .int y :: r => match ab_i1 ins y with
      | some z => some (pc + 1, z :: r)
      | none => match r with
        | .int x :: r => match ab_i2 ins x y with
          | some z => some (pc + 1, .int z :: r)
          | none => none
        | _ => none
    | _ => none
-- steps that touch stack and locals
def ab_c2 : Option Value → Bool
  | some (.long _) => true
  | some (.double _) => true
  | _ => false
def ab_lg (L : ab_L) (i : Nat) : Option Value := match L[i]? with
  | some o => o
  | none => none
def ab_l1 (L : ab_L) (i : Nat) (v : Value) : Option ab_L := if i < L.length ∧ (0 < i → ab_c2 (ab_lg L (i - 1)) = false) then some (L.set i (some v)) else none
def ab_l2 (L : ab_L) (i : Nat) (v : Value) : Option ab_L := if i + 1 < L.length ∧ (0 < i → ab_c2 (ab_lg L (i - 1)) = false) then some ((L.set i (some v)).set (i + 1) none) else none
def ab_ld (t : Nat) (L : ab_L) (i : Nat) : Option Value := match t, ab_lg L i with
  | 0, some (.int x) => some (.int x)
  | 1, some (.long x) => some (.long x)
  | 2, some (.ref x) => some (.ref x)
  | _, _ => none
def ab_so (t : Nat) (L : ab_L) (i : Nat) (v : Value) : Option ab_L := match t, v with
  | 0, .int x => ab_l1 L i (.int x)
  | 1, .long x => ab_l2 L i (.long x)
  | 2, .ref x => ab_l1 L i (.ref x)
  | _, _ => none
def ab_lk (ins : Instr) : Option (Bool × Nat × Nat) := match ins with
  | .iload i => some (false, 0, i)
  | .iload_n i => some (false, 0, i.val)
  | .lload i => some (false, 1, i)
  | .lload_n i => some (false, 1, i.val)
  | .aload i => some (false, 2, i)
  | .aload_n i => some (false, 2, i.val)
  | .istore i => some (true, 0, i)
  | .istore_n i => some (true, 0, i.val)
  | .lstore i => some (true, 1, i)
  | .lstore_n i => some (true, 1, i.val)
  | .astore i => some (true, 2, i)
  | .astore_n i => some (true, 2, i.val)
  | _ => none
def ab_lo (ins : Instr) (L : ab_L) (st : List Value) : Option (ab_L × List Value) := match ab_lk ins with
  | some (false, t, i) => match ab_ld t L i with
    | some v => some (L, v :: st)
    | none => none
  | some (true, t, i) => match st with
    | v :: r => match ab_so t L i v with
      | some L2 => some (L2, r)
      | none => none
    | _ => none
  | none => match ins with
    | .iinc i n => match ab_lg L i with
      | some (.int x) => match ab_l1 L i (.int (x + Int32.ofInt n)) with
        | some L2 => some (L2, st)
        | none => none
      | _ => none
    | _ => none
/-- the class whose objects the arrays of references hold; arrays that stay as they are -/
abbrev ab_Z : Type := Nat × List (List Int32)
-- steps that touch the world, none of whose cells is new
def ab_ft (ty : FieldType) (v : Value) : Bool := match ty, v with
  | .int, .int _ => true
  | .long, .long _ => true
  | .boolean, .int x => x == 0 || x == 1
  | .object _, .ref _ => true
  | .array _, .ref _ => true
  | .object _, .null => true
  | .array _, .null => true
  | _, _ => false
def ab_cp {α : Type} (f g : List α) (sp dp n : Nat) : List α := g.take dp ++ ((f.drop sp).take n ++ g.drop (dp + n))
def ab_sm (st : List Value) : Nat := (st.map fun v => v.category).sum
def ab_vr (o : Option Nat) : Value := match o with
  | some k => .ref k
  | none => .null
def ab_gf (G : Nat → Option ab_T) (ci f : Nat) (st : List Value) (cs : List ab_C) : Option (List Value × List ab_C) := match st with
  | .ref a :: r => match cs[a]?, G ci with
    | some (.inr (.inr (.inr (ci2, fs)))), some (_, _, N, _) => if ci2 = ci ∧ f < N then (match fs[f]? with
      | some v => some (v :: r, cs)
      | none => none) else none
    | _, _ => none
  | _ => none
def ab_pf (G : Nat → Option ab_T) (own : Nat) (isI : Bool) (ci f : Nat) (st : List Value) (cs : List ab_C) : Option (List Value × List ab_C) := match st with
  | v :: .ref a :: r => match cs[a]?, G ci with
    | some (.inr (.inr (.inr (ci2, fs)))), some (_, T, N, ty) => if ci2 = ci ∧ f < N ∧ f < fs.length ∧ ab_ft (ty f) v = true ∧ ((T f).2.2.2 = true → isI = true ∧ ci = own) then some (r, cs.set a (.inr (.inr (.inr (ci2, fs.set f v))))) else none
    | _, _ => none
  | _ => none
def ab_ia (Tb : List (List Int32)) (st : List Value) (cs : List ab_C) : Option (List Value × List ab_C) := match st with
  | .int i :: .ref a :: r => match cs[a]? with
    | some (.inl l) => if i < 0 ∨ l.length ≤ i.toNatClampNeg then none else some (.int (l.getD i.toNatClampNeg 0) :: r, cs)
    | none => match Tb[a - 1000000]? with
      | some l => if a < 1000000 ∨ i < 0 ∨ l.length ≤ i.toNatClampNeg then none else some (.int (l.getD i.toNatClampNeg 0) :: r, cs)
      | none => none
    | _ => none
  | _ => none
def ab_la (st : List Value) (cs : List ab_C) : Option (List Value × List ab_C) := match st with
  | .int i :: .ref a :: r => match cs[a]? with
    | some (.inr (.inl l)) => if i < 0 ∨ l.length ≤ i.toNatClampNeg then none else some (.long (l.getD i.toNatClampNeg 0) :: r, cs)
    | _ => none
  | _ => none
def ab_aa (st : List Value) (cs : List ab_C) : Option (List Value × List ab_C) := match st with
  | .int i :: .ref a :: r => match cs[a]? with
    | some (.inr (.inr (.inl l))) => if i < 0 ∨ l.length ≤ i.toNatClampNeg then none else some (ab_vr (l.getD i.toNatClampNeg none) :: r, cs)
    | _ => none
  | _ => none
def ab_is (st : List Value) (cs : List ab_C) : Option (List Value × List ab_C) := match st with
  | .int x :: .int i :: .ref a :: r => match cs[a]? with
    | some (.inl l) => if i < 0 ∨ l.length ≤ i.toNatClampNeg then none else some (r, cs.set a (.inl (l.set i.toNatClampNeg x)))
    | _ => none
  | _ => none
def ab_lst (st : List Value) (cs : List ab_C) : Option (List Value × List ab_C) := match st with
  | .long x :: .int i :: .ref a :: r => match cs[a]? with
    | some (.inr (.inl l)) => if i < 0 ∨ l.length ≤ i.toNatClampNeg then none else some (r, cs.set a (.inr (.inl (l.set i.toNatClampNeg x))))
    | _ => none
  | _ => none
def ab_as (cq : Nat) (st : List Value) (cs : List ab_C) : Option (List Value × List ab_C) := match st with
  | .ref v :: .int i :: .ref a :: r => match cs[a]?, cs[v]? with
    | some (.inr (.inr (.inl l))), some (.inr (.inr (.inr (ci, _)))) => if ci = cq then (if i < 0 ∨ l.length ≤ i.toNatClampNeg then none else some (r, cs.set a (.inr (.inr (.inl (l.set i.toNatClampNeg (some v))))))) else none
    | _, _ => none
  | _ => none
def ab_al (Tb : List (List Int32)) (st : List Value) (cs : List ab_C) : Option (List Value × List ab_C) := match st with
  | .ref a :: r => match cs[a]? with
    | some (.inl l) => some (.int (Int32.ofNat l.length) :: r, cs)
    | some (.inr (.inl l)) => some (.int (Int32.ofNat l.length) :: r, cs)
    | some (.inr (.inr (.inl l))) => some (.int (Int32.ofNat l.length) :: r, cs)
    | none => match Tb[a - 1000000]? with
      | some l => if a < 1000000 then none else some (.int (Int32.ofNat l.length) :: r, cs)
      | none => none
    | _ => none
  | _ => none
def ab_cy (st : List Value) (cs : List ab_C) : Option (List Value × List ab_C) := match st with
  | .int n :: .int dp :: .ref a :: .int sp :: .ref a0 :: r => if n < 0 ∨ dp < 0 ∨ sp < 0 ∨ 8 < ab_sm r then none else (match cs[a0]?, cs[a]? with
    | some (.inl f), some (.inl g) => if sp.toNatClampNeg + n.toNatClampNeg ≤ f.length ∧ dp.toNatClampNeg + n.toNatClampNeg ≤ g.length then some (r, cs.set a (.inl (ab_cp f g sp.toNatClampNeg dp.toNatClampNeg n.toNatClampNeg))) else none
    | some (.inr (.inl f)), some (.inr (.inl g)) => if sp.toNatClampNeg + n.toNatClampNeg ≤ f.length ∧ dp.toNatClampNeg + n.toNatClampNeg ≤ g.length then some (r, cs.set a (.inr (.inl (ab_cp f g sp.toNatClampNeg dp.toNatClampNeg n.toNatClampNeg)))) else none
    | _, _ => none)
  | _ => none
def ab_mx (st : List Value) (cs : List ab_C) : Option (List Value × List ab_C) := match st with
  | .int y :: .int x :: r => if ab_sm r ≤ 8 then some (.int (if x < y then y else x) :: r, cs) else none
  | _ => none
def ab_mn (st : List Value) (cs : List ab_C) : Option (List Value × List ab_C) := match st with
  | .int y :: .int x :: r => if ab_sm r ≤ 8 then some (.int (if y < x then y else x) :: r, cs) else none
  | _ => none
def ab_oi (st : List Value) (cs : List ab_C) : Option (List Value × List ab_C) := match st with
  | .ref _ :: r => if ab_sm r ≤ 8 then some (r, cs) else none
  | _ => none
def ab_hp (G : Nat → Option ab_T) (Z : ab_Z) (own : Nat) (isI : Bool) (ins : Instr) (k : ab_K) (st : List Value) (cs : List ab_C) : Option (List Value × List ab_C) := match ins with
  | .getfield _ => if k.1 = 1 then ab_gf G k.2.1 k.2.2 st cs else none
  | .putfield _ => if k.1 = 1 then ab_pf G own isI k.2.1 k.2.2 st cs else none
  | .iaload => ab_ia Z.2 st cs
  | .laload => ab_la st cs
  | .aaload => ab_aa st cs
  | .iastore => ab_is st cs
  | .lastore => ab_lst st cs
  | .aastore => ab_as Z.1 st cs
  | .arraylength => ab_al Z.2 st cs
  | .invokestatic _ => if k.1 = 7 then ab_mx st cs else if k.1 = 8 then ab_mn st cs else if k.1 = 9 then ab_cy st cs else none
  | .invokespecial _ => if k.1 = 6 then ab_oi st cs else none
  | .ldc _ => if k.1 = 10 then some (.int (Int32.ofNat k.2.1) :: st, cs) else none
  | .ldc_w _ => if k.1 = 10 then some (.int (Int32.ofNat k.2.1) :: st, cs) else none
  | .ldc2_w _ => if k.1 = 11 then some (.long (Int64.ofNat k.2.1) :: st, cs) else none
  | .getstatic _ => if k.1 = 13 then some (.ref (1000000 + k.2.1) :: st, cs) else none
  | _ => none
-- new cells
def ab_df (ty : Nat → FieldType) (N : Nat) : List Value := (List.range N).map (fun j => defaultValue (ty j))
def ab_nw (G : Nat → Option ab_T) (cq : Nat) (ins : Instr) (k : ab_K) (st : List Value) : Option (List Value × ab_C) := match ins with
  | .new _ => if k.1 = 2 then (match G k.2.1 with
    | some (_, _, N, ty) => some (st, .inr (.inr (.inr (k.2.1, ab_df ty N))))
    | none => none) else none
  | .newarray ty => match st with
    | .int n :: r => if n < 0 ∨ 1000000 < n.toNatClampNeg then none else (match ty with
      | .int => some (r, .inl (List.replicate n.toNatClampNeg 0))
      | .long => some (r, .inr (.inl (List.replicate n.toNatClampNeg 0)))
      | _ => none)
    | _ => none
  | .anewarray _ => match st with
    | .int n :: r => if n < 0 ∨ 1000000 < n.toNatClampNeg ∨ ¬ k.1 = 12 ∨ ¬ k.2.1 = cq then none else some (r, .inr (.inr (.inl (List.replicate n.toNatClampNeg none))))
    | _ => none
  | _ => none
-- calls and ends
def ab_re (ret : Option FieldType) (ins : Instr) (st : List Value) : Option (Option Value) := match ins with
  | .ireturn => match st with
    | [.int x] => match ret with
      | some .int => some (some (.int x))
      | some .boolean => if x = 0 ∨ x = 1 then some (some (.int x)) else none
      | _ => none
    | _ => none
  | .lreturn => match st with
    | [.long x] => match ret with
      | some .long => some (some (.long x))
      | _ => none
    | _ => none
  | .return_ => match st with
    | [] => match ret with
      | none => some none
      | _ => none
    | _ => none
  | _ => none
/-- a call: the callee, its arguments, the rest of the stack -/
def ab_ca (ins : Instr) (k : ab_K) (st : List Value) : Option (Nat × List Value × List Value) := match ins with
  | .invokevirtual _ => if k.1 = 3 ∧ k.2.2 < st.length then some (k.2.1, (st.take (k.2.2 + 1)).reverse, st.drop (k.2.2 + 1)) else none
  | .invokestatic _ => if k.1 = 4 ∧ k.2.2 ≤ st.length then some (k.2.1, (st.take k.2.2).reverse, st.drop k.2.2) else none
  | .invokespecial _ => if (k.1 = 5 ∨ k.1 = 15) ∧ k.2.2 < st.length then some (k.2.1, (st.take (k.2.2 + 1)).reverse, st.drop (k.2.2 + 1)) else none
  | _ => none
def ab_ag : List Value → ab_L
  | [] => []
  | v :: r => if v.category = 2 then some v :: none :: ab_ag r else some v :: ab_ag r
def ab_at (md : ab_D) (pc : Nat) : Option ab_I := match md.2.2.2.2.2.2.2[pc / 16]? with
  | some row => match row[pc % 16]? with
    | some o => o
    | none => none
  | none => none
/-- the receiver of a virtual call is of the callee's class -/
def ab_rv (G : Nat → Option ab_T) (own : Nat) (As : List Value) (cs : List ab_C) : Bool := match As with
  | .ref a :: _ => match cs[a]? with
    | some (.inr (.inr (.inr (ci, _)))) => decide (ci = own) && (G own).isSome
    | _ => false
  | _ => false
def ab_rf (As : List Value) : Bool := match As with
  | .ref _ :: _ => true
  | _ => false
def ab_fr (M : List ab_D) (G : Nat → Option ab_T) (Z : ab_Z) (call : Nat → List Value → List ab_C → Option (Option Value × List ab_C)) (md : ab_D) : Nat → ab_S → Option (Option Value × List ab_C)
  | 0, _ => none
  | f + 1, (pc, L, st, cs) => match ab_at md pc with
    | none => none
    | some (ins, len, k, _) => if ¬ (ab_ln ins = len ∨ ab_ln ins = 0) then none else
      match ab_pu ins pc st with
      | some (pc2, st2) => ab_fr M G Z call md f (pc2, L, st2, cs)
      | none => match ab_lo ins L st with
        | some (L2, st2) => ab_fr M G Z call md f (pc + len, L2, st2, cs)
        | none => match ab_hp G Z md.2.2.2.2.1 md.2.2.2.2.2.2.1 ins k st cs with
          | some (st2, cs2) => ab_fr M G Z call md f (pc + len, L, st2, cs2)
          | none => match ab_re md.2.2.2.1 ins st with
            | some v => some (v, cs)
            | none => match ab_nw G Z.1 ins k st with
              | some (st2, c) => if cs.length < 1000000 ∧ (L.all (ab_fo cs.length) && (st2.all (ab_fv cs.length) && cs.all (ab_fc cs.length))) = true then ab_fr M G Z call md f (pc + len, L, .ref cs.length :: st2, cs ++ [c]) else none
              | none => match ab_ca ins k st with
                | none => none
                | some (y, As, r) => match M[y]? with
                  | none => none
                  | some my => if ab_sm r ≤ 8 ∧ As.length = my.2.2.2.2.2.1 + cond (k.1 == 4) 0 1 ∧ (k.1 = 3 → ab_rv G my.2.2.2.2.1 As cs = true) ∧ (k.1 = 5 ∨ k.1 = 15 → my.2.2.2.2.2.2.1 = true ∧ my.2.2.2.1 = none ∧ ab_rf As = true) then
                    match call y As cs with
                    | none => none
                    | some (v, cs2) => if cs2.length = cs.length ∨ (L.all (ab_fo cs.length) && r.all (ab_fv cs.length)) = true then ab_fr M G Z call md f (pc + 3, L, v.toList ++ r, cs2) else none
                    else none
def ab_run (M : List ab_D) (G : Nat → Option ab_T) (Z : ab_Z) : Nat → Nat → Nat → List Value → List ab_C → Option (Option Value × List ab_C)
  | 0, _, _, _, _ => none
  | d + 1, f, y, As, cs => match M[y]? with
    | none => none
    | some md => if (ab_ag As).length ≤ md.2.2.1 then ab_fr M G Z (fun y As cs => ab_run M G Z d f y As cs) md f (0, ab_ag As ++ List.replicate (md.2.2.1 - (ab_ag As).length) none, [], cs) else none
end
section
/-! The machine of worlds is the machine's: step by step -/
theorem ab_len {ins : Instr} {len n : Nat} (e : ab_ln ins = n + 1) (h : ab_ln ins = len ∨ ab_ln ins = 0) : len = n + 1 := by omega
theorem ab_v_cat (ad : Nat → Nat) (v : Value) : (ab_v ad v).category = v.category := by cases v <;> rfl
theorem ab_sm_map (ad : Nat → Nat) (st : List Value) : ((st.map (ab_v ad)).map fun v => v.category).sum = ab_sm st := by
  unfold ab_sm
  rw [List.map_map]
  congr 1
  exact List.map_congr_left (fun v _ => ab_v_cat ad v)
theorem ab_tg_ok {pc t : Nat} {off : Int} (h : ab_tg pc off = some t) : (pc : Int) + off = (t : Int) := by
  unfold ab_tg at h
  split at h
  · rename_i q e
    cases h
    exact e
  · cases h
section ABS
variable {p : Program} {l : Launch} {e : Env} {R : Room} {s : State} {m : MethodId} {args : Array Value} {below : List Frame} {meth : Method} {c : Code} {H : Heap} {locs : List Loc} {cells slots : Nat} {Q : State → Prop}
variable {cc : ByteArray} {pc : Nat} {ls : Array Slot} {rest : List Value}
theorem ab_if_ok (hx : p.tables.exec = Jvm.exec) (hb : c.code = cc) {x : Int32} {off : Int} {tgt : Nat} {o : ClassFile.Cond} (hdg : decode cc pc = .ok (.ifCond o off, 3)) (ht : (pc : Int) + off = (tgt : Int))
    (k : W p l e R s m args below meth c H locs cells slots Q (F0 m (cond (ab_cn o x 0) tgt (pc + 3)) ls rest)) : W p l e R s m args below meth c H locs cells slots Q (F0 m pc ls (.int x :: rest)) := by
  cases o
  · exact lv_if_eq hx hb hdg ht (fun h => by rw [show ab_cn .eq x 0 = true from decide_eq_true h] at k; exact k) (fun h => by rw [show ab_cn .eq x 0 = false from decide_eq_false h] at k; exact k)
  · exact lv_if_ne hx hb hdg ht (fun h => by rw [show ab_cn .ne x 0 = true from decide_eq_true h] at k; exact k) (fun h => by rw [show ab_cn .ne x 0 = false from decide_eq_false (fun q => q h)] at k; exact k)
  · exact lv_if_lt hx hb hdg ht (fun h => by rw [show ab_cn .lt x 0 = true from decide_eq_true h] at k; exact k) (fun h => by rw [show ab_cn .lt x 0 = false from decide_eq_false h] at k; exact k)
  · exact lv_if_ge hx hb hdg ht (fun h => by rw [show ab_cn .ge x 0 = true from decide_eq_true h] at k; exact k) (fun h => by rw [show ab_cn .ge x 0 = false from decide_eq_false h] at k; exact k)
  · exact lv_if_gt hx hb hdg ht (fun h => by rw [show ab_cn .gt x 0 = true from decide_eq_true h] at k; exact k) (fun h => by rw [show ab_cn .gt x 0 = false from decide_eq_false h] at k; exact k)
  · exact lv_if_le hx hb hdg ht (fun h => by rw [show ab_cn .le x 0 = true from decide_eq_true h] at k; exact k) (fun h => by rw [show ab_cn .le x 0 = false from decide_eq_false h] at k; exact k)
theorem ab_ic_ok (hx : p.tables.exec = Jvm.exec) (hb : c.code = cc) {x y : Int32} {off : Int} {tgt : Nat} {o : ClassFile.Cond} (hdg : decode cc pc = .ok (.if_icmp o off, 3)) (ht : (pc : Int) + off = (tgt : Int))
    (k : W p l e R s m args below meth c H locs cells slots Q (F0 m (cond (ab_cn o x y) tgt (pc + 3)) ls rest)) : W p l e R s m args below meth c H locs cells slots Q (F0 m pc ls (.int y :: .int x :: rest)) := by
  cases o
  · exact lv_icmp_eq hx hb hdg ht (fun h => by rw [show ab_cn .eq x y = true from decide_eq_true h] at k; exact k) (fun h => by rw [show ab_cn .eq x y = false from decide_eq_false h] at k; exact k)
  · exact lv_icmp_ne hx hb hdg ht (fun h => by rw [show ab_cn .ne x y = true from decide_eq_true h] at k; exact k) (fun h => by rw [show ab_cn .ne x y = false from decide_eq_false (fun q => q h)] at k; exact k)
  · exact lv_icmp_lt hx hb hdg ht (fun h => by rw [show ab_cn .lt x y = true from decide_eq_true h] at k; exact k) (fun h => by rw [show ab_cn .lt x y = false from decide_eq_false h] at k; exact k)
  · exact lv_icmp_ge hx hb hdg ht (fun h => by rw [show ab_cn .ge x y = true from decide_eq_true h] at k; exact k) (fun h => by rw [show ab_cn .ge x y = false from decide_eq_false h] at k; exact k)
  · exact lv_icmp_gt hx hb hdg ht (fun h => by rw [show ab_cn .gt x y = true from decide_eq_true h] at k; exact k) (fun h => by rw [show ab_cn .gt x y = false from decide_eq_false h] at k; exact k)
  · exact lv_icmp_le hx hb hdg ht (fun h => by rw [show ab_cn .le x y = true from decide_eq_true h] at k; exact k) (fun h => by rw [show ab_cn .le x y = false from decide_eq_false h] at k; exact k)
theorem ab_i2_ok (hx : p.tables.exec = Jvm.exec) (hb : c.code = cc) {ins : Instr} {len : Nat} {x y z : Int32} (hdg : decode cc pc = .ok (ins, len)) (hln : ab_ln ins = len ∨ ab_ln ins = 0) (h : ab_i2 ins x y = some z)
    (k : W p l e R s m args below meth c H locs cells slots Q (F0 m (pc + 1) ls (.int z :: rest))) : W p l e R s m args below meth c H locs cells slots Q (F0 m pc ls (.int y :: .int x :: rest)) := by
  unfold ab_i2 at h
  split at h
  · cases h; obtain rfl := ab_len (n := 0) rfl hln; exact lv_iadd hx hb hdg k
  · cases h; obtain rfl := ab_len (n := 0) rfl hln; exact lv_isub hx hb hdg k
  · cases h; obtain rfl := ab_len (n := 0) rfl hln; exact lv_imul hx hb hdg k
  · cases h; obtain rfl := ab_len (n := 0) rfl hln; exact lv_iand hx hb hdg k
  · cases h; obtain rfl := ab_len (n := 0) rfl hln; exact lv_ior hx hb hdg k
  · cases h; obtain rfl := ab_len (n := 0) rfl hln; exact lv_ixor hx hb hdg k
  · split at h
    · cases h
    · rename_i hne
      cases h; obtain rfl := ab_len (n := 0) rfl hln; exact lv_idiv hx hb hdg hne k
  · split at h
    · cases h
    · rename_i hne
      cases h; obtain rfl := ab_len (n := 0) rfl hln; exact lv_irem hx hb hdg hne k
  · cases h; obtain rfl := ab_len (n := 0) rfl hln; exact lv_ishl hx hb hdg k
  · cases h; obtain rfl := ab_len (n := 0) rfl hln; exact lv_ishr hx hb hdg k
  · cases h; obtain rfl := ab_len (n := 0) rfl hln; exact lv_iushr hx hb hdg rfl k
  · cases h
theorem ab_i1_ok (hx : p.tables.exec = Jvm.exec) (hb : c.code = cc) {ins : Instr} {len : Nat} {x : Int32} {z : Value} (hdg : decode cc pc = .ok (ins, len)) (hln : ab_ln ins = len ∨ ab_ln ins = 0) (h : ab_i1 ins x = some z) (ad : Nat → Nat)
    (k : W p l e R s m args below meth c H locs cells slots Q (F0 m (pc + 1) ls (ab_v ad z :: rest))) : W p l e R s m args below meth c H locs cells slots Q (F0 m pc ls (.int x :: rest)) := by
  unfold ab_i1 at h
  split at h
  · cases h; obtain rfl := ab_len (n := 0) rfl hln; exact lv_ineg hx hb hdg k
  · cases h; obtain rfl := ab_len (n := 0) rfl hln; exact lv_i2l hx hb hdg rfl k
  · cases h; obtain rfl := ab_len (n := 0) rfl hln; exact lv_i2b hx hb hdg rfl k
  · cases h; obtain rfl := ab_len (n := 0) rfl hln; exact lv_i2s hx hb hdg rfl k
  · cases h; obtain rfl := ab_len (n := 0) rfl hln; exact lv_i2c hx hb hdg rfl k
  · cases h
set_option maxHeartbeats 4000000 in
theorem ab_pu_ok (hx : p.tables.exec = Jvm.exec) (hb : c.code = cc) {ins : Instr} {len pc2 : Nat} {st st2 : List Value} (hdg : decode cc pc = .ok (ins, len)) (hln : ab_ln ins = len ∨ ab_ln ins = 0) (h : ab_pu ins pc st = some (pc2, st2)) (ad : Nat → Nat)
    (k : W p l e R s m args below meth c H locs cells slots Q (F0 m pc2 ls (st2.map (ab_v ad)))) : W p l e R s m args below meth c H locs cells slots Q (F0 m pc ls (st.map (ab_v ad))) := by
  unfold ab_pu at h
  split at h
  · cases h; obtain rfl := ab_len (n := 0) rfl hln; exact lv_iconst hx hb hdg rfl k
  · cases h; obtain rfl := ab_len (n := 1) rfl hln; exact lv_bipush hx hb hdg rfl k
  · cases h; obtain rfl := ab_len (n := 2) rfl hln; exact lv_sipush hx hb hdg rfl k
  · cases h; obtain rfl := ab_len (n := 0) rfl hln; exact lv_lconst hx hb hdg rfl k
  · split at h
    · split at h
      · rename_i hc
        cases h; obtain rfl := ab_len (n := 0) rfl hln; exact lv_dup hx hb hdg ((ab_v_cat ad _).trans hc) k
      · cases h
    · cases h
  · split at h
    · split at h
      · rename_i hc
        cases h; obtain rfl := ab_len (n := 0) rfl hln; exact lv_pop hx hb hdg ((ab_v_cat ad _).trans hc) k
      · cases h
    · cases h
  · split at h
    · split at h
      · rename_i hc
        cases h; obtain rfl := ab_len (n := 0) rfl hln; exact lv_dup2_11 hx hb hdg ((ab_v_cat ad _).trans hc.1) ((ab_v_cat ad _).trans hc.2) k
      · cases h
    · cases h
  · split at h
    · split at h
      · rename_i hc
        cases h; obtain rfl := ab_len (n := 0) rfl hln; exact lv_dup_x1 hx hb hdg ((ab_v_cat ad _).trans hc.1) ((ab_v_cat ad _).trans hc.2) k
      · cases h
    · cases h
  · split at h
    · rename_i ht
      cases h; obtain rfl := ab_len (n := 2) rfl hln; exact lv_goto hx hb hdg (ab_tg_ok ht) k
    · cases h
  · split at h
    · split at h
      · rename_i ht
        cases h; obtain rfl := ab_len (n := 2) rfl hln; exact ab_if_ok hx hb hdg (ab_tg_ok ht) k
      · cases h
    · cases h
  · split at h
    · split at h
      · rename_i ht
        cases h; obtain rfl := ab_len (n := 2) rfl hln; exact ab_ic_ok hx hb hdg (ab_tg_ok ht) k
      · cases h
    · cases h
  · split at h
    · cases h; obtain rfl := ab_len (n := 0) rfl hln; exact lv_l2i hx hb hdg rfl k
    · cases h
  · split at h
    · cases h; obtain rfl := ab_len (n := 0) rfl hln; exact lv_lshl hx hb hdg rfl k
    · cases h
  · split at h
    · cases h; obtain rfl := ab_len (n := 0) rfl hln; exact lv_lor hx hb hdg k
    · cases h
  · split at h
    · cases h; obtain rfl := ab_len (n := 0) rfl hln; exact lv_land hx hb hdg k
    · cases h
  · split at h
    · cases h; obtain rfl := ab_len (n := 0) rfl hln; exact W.lcmp hx hb hdg k
    · cases h
  · split at h
    · split at h
      · rename_i hr
        split at h
        · rename_i ht
          cases h; exact lv_tableOut hx hb hdg hr (ab_tg_ok ht) k
        · cases h
      · rename_i hr
        have hr := not_or.mp hr
        split at h
        · rename_i ho
          split at h
          · rename_i ht
            cases h; exact lv_tableIn hx hb hdg hr.1 hr.2 ho (ab_tg_ok ht) k
          · cases h
        · cases h
    · cases h
  · split at h
    · split at h
      · rename_i hp
        split at h
        · rename_i ht
          cases h; exact lv_lookup hx hb hdg hp rfl (ab_tg_ok ht) k
        · cases h
      · cases h
    · cases h
  · split at h
    · split at h
      · rename_i h1
        cases h
        exact ab_i1_ok hx hb hdg hln h1 ad k
      · split at h
        · split at h
          · rename_i h2
            cases h
            exact ab_i2_ok hx hb hdg hln h2 k
          · cases h
        · cases h
    · cases h
end ABS
end
section
/-! locals -/
def ab_h (ad : Nat → Nat) (ls : Array Slot) (nL : Nat) (L : ab_L) : Prop := L.length = nL ∧ ls.size = nL ∧ lv_wf ls ∧ ∀ (k : Nat) (v : Value), L[k]? = some (some v) → ls[k]? = some (.val (ab_v ad v))
def ab_ll (ad : Nat → Nat) : Nat → ab_L → List (Nat × Value)
  | _, [] => []
  | i, none :: r => ab_ll ad (i + 1) r
  | i, some v :: r => (i, ab_v ad v) :: ab_ll ad (i + 1) r
theorem ab_ll_mem (ad : Nat → Nat) : ∀ (L : ab_L) (i : Nat) (q : Nat × Value), q ∈ ab_ll ad i L ↔ ∃ (k : Nat) (v : Value), L[k]? = some (some v) ∧ q = (i + k, ab_v ad v)
  | [], i, q => ⟨fun h => by simp [ab_ll] at h, fun ⟨k, v, h, _⟩ => by simp at h⟩
  | none :: r, i, q => by
    rw [show ab_ll ad i (none :: r) = ab_ll ad (i + 1) r from rfl, ab_ll_mem ad r (i + 1) q]
    constructor
    · rintro ⟨k, v, h, rfl⟩
      exact ⟨k + 1, v, by simpa using h, by rw [show i + 1 + k = i + (k + 1) by omega]⟩
    · rintro ⟨k, v, h, rfl⟩
      cases k with
      | zero => simp at h
      | succ k => exact ⟨k, v, by simpa using h, by rw [show i + 1 + k = i + (k + 1) by omega]⟩
  | some w :: r, i, q => by
    rw [show ab_ll ad i (some w :: r) = (i, ab_v ad w) :: ab_ll ad (i + 1) r from rfl, List.mem_cons, ab_ll_mem ad r (i + 1) q]
    constructor
    · rintro (rfl | ⟨k, v, h, rfl⟩)
      · exact ⟨0, w, rfl, rfl⟩
      · exact ⟨k + 1, v, by simpa using h, by rw [show i + 1 + k = i + (k + 1) by omega]⟩
    · rintro ⟨k, v, h, rfl⟩
      cases k with
      | zero => 
        have h : some w = some v := by simpa using h
        cases h
        exact Or.inl rfl
      | succ k => exact Or.inr ⟨k, v, by simpa using h, by rw [show i + 1 + k = i + (k + 1) by omega]⟩
theorem ab_h_has {ad : Nat → Nat} {ls : Array Slot} {nL : Nat} {L : ab_L} (h : ab_h ad ls nL L) : lv_has ls nL (ab_ll ad 0 L) := by
  refine ⟨h.2.1, h.2.2.1, fun q hq => ?_⟩
  obtain ⟨k, v, hk, rfl⟩ := (ab_ll_mem ad L 0 q).mp hq
  show ls[0 + k]? = _
  rw [Nat.zero_add]
  exact h.2.2.2 k v hk
theorem ab_lg_some {L : ab_L} {i : Nat} {v : Value} (h : ab_lg L i = some v) : L[i]? = some (some v) := by
  unfold ab_lg at h
  split at h
  · rename_i o ho
    rw [ho, h]
  · cases h
theorem ab_h_at {ad : Nat → Nat} {ls : Array Slot} {nL : Nat} {L : ab_L} (h : ab_h ad ls nL L) {i : Nat} {v : Value} (hi : ab_lg L i = some v) : ls[i]? = some (.val (ab_v ad v)) := h.2.2.2 i v (ab_lg_some hi)
theorem ab_c2_no {L : ab_L} {k : Nat} {v : Value} (h : ab_c2 (ab_lg L k) = false) (hk : L[k]? = some (some v)) : ¬ v.category = 2 := by
  rw [show ab_lg L k = some v by unfold ab_lg; rw [hk]] at h
  cases v <;> simp_all [ab_c2, Value.category]
theorem ab_h_st1 {ad : Nat → Nat} {ls : Array Slot} {nL : Nat} {L L2 : ab_L} {i : Nat} {v : Value} (h : ab_h ad ls nL L) (hs : ab_l1 L i v = some L2) : i < nL ∧ ∀ ls' : Array Slot, lv_has ls' nL ((i, ab_v ad v) :: (ab_ll ad 0 L).filter (fun q => !(q.1 == i) && !(q.1 + 1 == i && q.2.category == 2))) → ab_h ad ls' nL L2 := by
  unfold ab_l1 at hs
  split at hs
  · rename_i hc
    cases hs
    refine ⟨h.1 ▸ hc.1, fun ls' hl => ⟨by rw [List.length_set]; exact h.1, hl.1, hl.2.1, fun k w hk => ?_⟩⟩
    by_cases hki : k = i
    · subst hki
      rw [List.getElem?_set_self hc.1] at hk
      cases hk
      exact hl.2.2 (k, ab_v ad v) List.mem_cons_self
    · rw [List.getElem?_set_ne (fun q => hki q.symm)] at hk
      refine hl.2.2 (k, ab_v ad w) (List.mem_cons_of_mem _ (List.mem_filter.mpr ⟨(ab_ll_mem ad L 0 _).mpr ⟨k, w, hk, by rw [Nat.zero_add]⟩, ?_⟩))
      simp only [Bool.and_eq_true, Bool.not_eq_true', beq_eq_false_iff_ne, ne_eq, Bool.and_eq_false_iff]
      refine ⟨hki, ?_⟩
      by_cases hk1 : k + 1 = i
      · refine Or.inr (fun q => ?_)
        rw [ab_v_cat] at q
        exact ab_c2_no (hc.2 (by omega)) (by rw [show i - 1 = k by omega]; exact hk) q
      · exact Or.inl hk1
  · cases hs
theorem ab_h_st2 {ad : Nat → Nat} {ls : Array Slot} {nL : Nat} {L L2 : ab_L} {i : Nat} {v : Value} (h : ab_h ad ls nL L) (hs : ab_l2 L i v = some L2) : i + 1 < nL ∧ ∀ ls' : Array Slot, lv_has ls' nL ((i, ab_v ad v) :: (ab_ll ad 0 L).filter (fun q => !(q.1 == i) && (!(q.1 == i + 1) && !(q.1 + 1 == i && q.2.category == 2)))) → ab_h ad ls' nL L2 := by
  unfold ab_l2 at hs
  split at hs
  · rename_i hc
    cases hs
    refine ⟨h.1 ▸ hc.1, fun ls' hl => ⟨by rw [List.length_set, List.length_set]; exact h.1, hl.1, hl.2.1, fun k w hk => ?_⟩⟩
    by_cases hk1 : k = i + 1
    · subst hk1
      rw [List.getElem?_set_self (by rw [List.length_set]; exact hc.1)] at hk
      cases hk
    · rw [List.getElem?_set_ne (fun q => hk1 q.symm)] at hk
      by_cases hki : k = i
      · subst hki
        rw [List.getElem?_set_self (by omega)] at hk
        cases hk
        exact hl.2.2 (k, ab_v ad v) List.mem_cons_self
      · rw [List.getElem?_set_ne (fun q => hki q.symm)] at hk
        refine hl.2.2 (k, ab_v ad w) (List.mem_cons_of_mem _ (List.mem_filter.mpr ⟨(ab_ll_mem ad L 0 _).mpr ⟨k, w, hk, by rw [Nat.zero_add]⟩, ?_⟩))
        simp only [Bool.and_eq_true, Bool.not_eq_true', beq_eq_false_iff_ne, ne_eq, Bool.and_eq_false_iff]
        refine ⟨hki, hk1, ?_⟩
        by_cases hk1 : k + 1 = i
        · refine Or.inr (fun q => ?_)
          rw [ab_v_cat] at q
          exact ab_c2_no (hc.2 (by omega)) (by rw [show i - 1 = k by omega]; exact hk) q
        · exact Or.inl hk1
  · cases hs
section ABS2
variable {p : Program} {l : Launch} {e : Env} {R : Room} {s : State} {m : MethodId} {args : Array Value} {below : List Frame} {meth : Method} {c : Code} {H : Heap} {locs : List Loc} {cells slots : Nat} {Q : State → Prop}
variable {cc : ByteArray} {pc : Nat} {ls : Array Slot} {rest : List Value}
theorem ab_ldi {L : ab_L} {i : Nat} {v : Value} (h : ab_ld 0 L i = some v) : ∃ x : Int32, v = .int x ∧ ab_lg L i = some (.int x) := by
  unfold ab_ld at h
  split at h
  · rename_i hx _ e
    cases h
    exact ⟨_, rfl, e⟩
  all_goals first | (cases h; done) | (rename_i q _ _; cases q; done) | (rename_i q _; cases q; done) | (rename_i q; cases q; done)
theorem ab_ldl {L : ab_L} {i : Nat} {v : Value} (h : ab_ld 1 L i = some v) : ∃ x : Int64, v = .long x ∧ ab_lg L i = some (.long x) := by
  unfold ab_ld at h
  split at h
  all_goals first | (cases h; done) | (cases h; exact ⟨_, rfl, by assumption⟩) | omega
theorem ab_lda {L : ab_L} {i : Nat} {v : Value} (h : ab_ld 2 L i = some v) : ∃ x : Nat, v = .ref x ∧ ab_lg L i = some (.ref x) := by
  unfold ab_ld at h
  split at h
  all_goals first | (cases h; done) | (cases h; exact ⟨_, rfl, by assumption⟩) | omega
theorem ab_soi {L L2 : ab_L} {i : Nat} {v : Value} (h : ab_so 0 L i v = some L2) : ∃ x : Int32, v = .int x ∧ ab_l1 L i (.int x) = some L2 := by
  unfold ab_so at h
  split at h
  all_goals first | (exact ⟨_, rfl, h⟩) | (cases h; done) | omega
theorem ab_sol {L L2 : ab_L} {i : Nat} {v : Value} (h : ab_so 1 L i v = some L2) : ∃ x : Int64, v = .long x ∧ ab_l2 L i (.long x) = some L2 := by
  unfold ab_so at h
  split at h
  all_goals first | (exact ⟨_, rfl, h⟩) | (cases h; done) | omega
theorem ab_soa {L L2 : ab_L} {i : Nat} {v : Value} (h : ab_so 2 L i v = some L2) : ∃ x : Nat, v = .ref x ∧ ab_l1 L i (.ref x) = some L2 := by
  unfold ab_so at h
  split at h
  all_goals first | (exact ⟨_, rfl, h⟩) | (cases h; done) | omega
set_option maxHeartbeats 4000000 in
theorem ab_lo_ok (hx : p.tables.exec = Jvm.exec) (hb : c.code = cc) {ins : Instr} {len nL : Nat} {L L2 : ab_L} {st st2 : List Value} (hdg : decode cc pc = .ok (ins, len)) (hln : ab_ln ins = len ∨ ab_ln ins = 0) (h : ab_lo ins L st = some (L2, st2)) (ad : Nat → Nat) (hL : ab_h ad ls nL L)
    (k : ∀ ls' : Array Slot, ab_h ad ls' nL L2 → W p l e R s m args below meth c H locs cells slots Q (F0 m (pc + len) ls' (st2.map (ab_v ad)))) : W p l e R s m args below meth c H locs cells slots Q (F0 m pc ls (st.map (ab_v ad))) := by
  unfold ab_lo at h
  split at h
  · rename_i t i hk
    split at h
    · rename_i v hv
      cases h
      unfold ab_lk at hk
      split at hk <;> cases hk
      · obtain ⟨x, rfl, hg⟩ := ab_ldi hv
        obtain rfl := ab_len (n := 1) rfl hln
        exact lv_iload hx hb hdg (ab_h_at hL hg) (k ls hL)
      · obtain ⟨x, rfl, hg⟩ := ab_ldi hv
        obtain rfl := ab_len (n := 0) rfl hln
        exact lv_iload_n hx hb hdg rfl (ab_h_at hL hg) (k ls hL)
      · obtain ⟨x, rfl, hg⟩ := ab_ldl hv
        obtain rfl := ab_len (n := 1) rfl hln
        exact lv_lload hx hb hdg (ab_h_at hL hg) (k ls hL)
      · obtain ⟨x, rfl, hg⟩ := ab_ldl hv
        obtain rfl := ab_len (n := 0) rfl hln
        exact lv_lload_n hx hb hdg rfl (ab_h_at hL hg) (k ls hL)
      · obtain ⟨x, rfl, hg⟩ := ab_lda hv
        obtain rfl := ab_len (n := 1) rfl hln
        exact lv_aload hx hb hdg (ab_h_at hL hg) (k ls hL)
      · obtain ⟨x, rfl, hg⟩ := ab_lda hv
        obtain rfl := ab_len (n := 0) rfl hln
        exact lv_aload_n hx hb hdg rfl (ab_h_at hL hg) (k ls hL)
    · cases h
  · rename_i t i hk
    split at h
    · rename_i v r
      split at h
      · rename_i L3 hs
        cases h
        unfold ab_lk at hk
        split at hk <;> cases hk
        · obtain ⟨x, rfl, hg⟩ := ab_soi hs
          obtain rfl := ab_len (n := 1) rfl hln
          obtain ⟨h1, h2⟩ := ab_h_st1 hL hg
          exact lv_istore hx hb hdg (ab_h_has hL) h1 rfl (fun ls' hl => k ls' (h2 ls' hl))
        · obtain ⟨x, rfl, hg⟩ := ab_soi hs
          obtain rfl := ab_len (n := 0) rfl hln
          obtain ⟨h1, h2⟩ := ab_h_st1 hL hg
          exact lv_istore_n hx hb hdg rfl (ab_h_has hL) h1 rfl (fun ls' hl => k ls' (h2 ls' hl))
        · obtain ⟨x, rfl, hg⟩ := ab_sol hs
          obtain rfl := ab_len (n := 1) rfl hln
          obtain ⟨h1, h2⟩ := ab_h_st2 hL hg
          exact lv_lstore hx hb hdg (ab_h_has hL) h1 rfl (fun ls' hl => k ls' (h2 ls' hl))
        · obtain ⟨x, rfl, hg⟩ := ab_sol hs
          obtain rfl := ab_len (n := 0) rfl hln
          obtain ⟨h1, h2⟩ := ab_h_st2 hL hg
          exact lv_lstore_n hx hb hdg rfl (ab_h_has hL) h1 rfl (fun ls' hl => k ls' (h2 ls' hl))
        · obtain ⟨x, rfl, hg⟩ := ab_soa hs
          obtain rfl := ab_len (n := 1) rfl hln
          obtain ⟨h1, h2⟩ := ab_h_st1 hL hg
          exact lv_astore hx hb hdg (ab_h_has hL) h1 rfl (fun ls' hl => k ls' (h2 ls' hl))
        · obtain ⟨x, rfl, hg⟩ := ab_soa hs
          obtain rfl := ab_len (n := 0) rfl hln
          obtain ⟨h1, h2⟩ := ab_h_st1 hL hg
          exact lv_astore_n hx hb hdg rfl (ab_h_has hL) h1 rfl (fun ls' hl => k ls' (h2 ls' hl))
      · cases h
    · cases h
  · split at h
    · rename_i i n _
      split at h
      · rename_i x hg
        split at h
        · rename_i L3 hs
          cases h
          obtain rfl := ab_len (n := 2) rfl hln
          obtain ⟨h1, h2⟩ := ab_h_st1 hL hs
          obtain ⟨j, hj⟩ := List.getElem?_of_mem ((ab_ll_mem ad L 0 (i, .int x)).mpr ⟨i, .int x, ab_lg_some hg, by rw [Nat.zero_add]; rfl⟩)
          exact lv_iinc hx hb hdg (ab_h_has hL) hj rfl h1 rfl (fun ls' hl => k ls' (h2 ls' hl))
        · cases h
      · cases h
    · cases h
end ABS2
end
section
/-! the world, its cells and their places -/
theorem ab_w_get (K : ab_Q) (ad : Nat → Nat) : ∀ (cs : List ab_C) (n q : Nat), (ab_w K ad n cs)[q]? = cs[q]?.map (fun c => (ad (n + q), ab_e K ad c))
  | [], n, q => by simp [ab_w]
  | c :: r, n, 0 => by simp [ab_w]
  | c :: r, n, q + 1 => by
    show (ab_w K ad (n + 1) r)[q]? = _
    rw [ab_w_get K ad r (n + 1) q, show n + 1 + q = n + (q + 1) by omega]
    rfl
theorem ab_w_at {K : ab_Q} {ad : Nat → Nat} {cs : List ab_C} {q : Nat} {c : ab_C} (h : cs[q]? = some c) : (ab_w K ad 0 cs)[q]? = some (ad q, ab_e K ad c) := by
  rw [ab_w_get, h, Nat.zero_add]
  rfl
theorem ab_w_set (K : ab_Q) (ad : Nat → Nat) (c : ab_C) : ∀ (cs : List ab_C) (n q : Nat), (ab_w K ad n cs).set q (ad (n + q), ab_e K ad c) = ab_w K ad n (cs.set q c)
  | [], n, q => by simp [ab_w]
  | d :: r, n, 0 => by simp [ab_w]
  | d :: r, n, q + 1 => by
    show (ad n, ab_e K ad d) :: (ab_w K ad (n + 1) r).set q _ = _
    rw [show n + (q + 1) = n + 1 + q by omega, ab_w_set K ad c r (n + 1) q]
    rfl
theorem ab_w_put (K : ab_Q) (ad : Nat → Nat) (c : ab_C) (cs : List ab_C) (q : Nat) : (ab_w K ad 0 cs).set q (ad q, ab_e K ad c) = ab_w K ad 0 (cs.set q c) := by
  have h := ab_w_set K ad c cs 0 q
  rwa [Nat.zero_add] at h
theorem ab_w_app (K : ab_Q) (ad : Nat → Nat) (ds : List ab_C) : ∀ (cs : List ab_C) (n : Nat), ab_w K ad n (cs ++ ds) = ab_w K ad n cs ++ ab_w K ad (n + cs.length) ds
  | [], n => rfl
  | c :: r, n => by
    show (ad n, ab_e K ad c) :: ab_w K ad (n + 1) (r ++ ds) = _
    rw [ab_w_app K ad ds r (n + 1), show n + 1 + r.length = n + (c :: r).length by simp; omega]
    rfl
theorem ab_v_ext {ad ad' : Nat → Nat} {N : Nat} (h : ∀ k, k < N ∨ 1000000 ≤ k → ad' k = ad k) {v : Value} (hv : ab_fv N v = true) : ab_v ad' v = ab_v ad v := by
  cases v <;> first | rfl | skip
  rename_i k
  show Value.ref (ad' k) = Value.ref (ad k)
  rw [h k (of_decide_eq_true hv)]
theorem ab_e_ext (K : ab_Q) {ad ad' : Nat → Nat} {N : Nat} (h : ∀ k, k < N ∨ 1000000 ≤ k → ad' k = ad k) {c : ab_C} (hc : ab_fc N c = true) : ab_e K ad' c = ab_e K ad c := by
  obtain l | l | l | o := c
  · rfl
  · rfl
  · have hf : (fun j => (l.getD j none).map ad') = (fun j => (l.getD j none).map ad) := by
      funext j
      cases hj : l.getD j none with
      | none => rfl
      | some k =>
        have hm : some k ∈ l := by
          rw [List.getD_eq_getElem?_getD] at hj
          cases hq : l[j]? with
          | none => rw [hq] at hj; cases hj
          | some z => 
            rw [hq] at hj
            have hj : z = some k := hj
            exact hj ▸ List.mem_of_getElem? hq
        have h2 := List.all_eq_true.mp hc (some k) hm
        show some (ad' k) = some (ad k)
        rw [h k (Or.inl (of_decide_eq_true h2))]
    show Sum.inl (K.2.2, l.length, Sum.inr (Sum.inr (Sum.inr (Sum.inr (fun j => (l.getD j none).map ad'))))) = _
    rw [hf]
    rfl
  · show Sum.inr (o.1, o.2.map (ab_v ad')) = Sum.inr (o.1, o.2.map (ab_v ad))
    congr 2
    exact List.map_congr_left (fun v hv => ab_v_ext h (List.all_eq_true.mp hc v hv))
theorem ab_w_ext (K : ab_Q) {ad ad' : Nat → Nat} {N : Nat} (h : ∀ k, k < N ∨ 1000000 ≤ k → ad' k = ad k) : ∀ (cs : List ab_C) (n : Nat), n + cs.length ≤ N → cs.all (ab_fc N) = true → ab_w K ad' n cs = ab_w K ad n cs
  | [], n, _, _ => rfl
  | c :: r, n, hn, hc => by
    have hc := List.all_cons.symm.trans hc
    rw [Bool.and_eq_true] at hc
    have hl : (c :: r).length = r.length + 1 := rfl
    show (ad' n, ab_e K ad' c) :: ab_w K ad' (n + 1) r = (ad n, ab_e K ad c) :: ab_w K ad (n + 1) r
    rw [h n (Or.inl (by omega)), ab_e_ext K h hc.1, ab_w_ext K h r (n + 1) (by omega) hc.2]
theorem ab_st_ext {ad ad' : Nat → Nat} {N : Nat} (h : ∀ k, k < N ∨ 1000000 ≤ k → ad' k = ad k) {st : List Value} (hs : st.all (ab_fv N) = true) : st.map (ab_v ad') = st.map (ab_v ad) :=
  List.map_congr_left (fun v hv => ab_v_ext h (List.all_eq_true.mp hs v hv))
theorem ab_h_ext {ad ad' : Nat → Nat} {N : Nat} (h : ∀ k, k < N ∨ 1000000 ≤ k → ad' k = ad k) {ls : Array Slot} {nL : Nat} {L : ab_L} (hL : ab_h ad ls nL L) (hs : L.all (ab_fo N) = true) : ab_h ad' ls nL L :=
  ⟨hL.1, hL.2.1, hL.2.2.1, fun k v hk => by rw [ab_v_ext h (List.all_eq_true.mp hs (some v) (List.mem_of_getElem? hk))]; exact hL.2.2.2 k v hk⟩
theorem ab_sz_set {cs : List ab_C} {q : Nat} {c d : ab_C} (h : cs[q]? = some c) (hs : ab_sc d = ab_sc c) : ab_sz (cs.set q d) = ab_sz cs := by
  induction cs generalizing q with
  | nil => rfl
  | cons a r ih => 
    cases q with
    | zero => 
      have h : a = c := by simpa using h
      subst h
      show ab_sc d + _ = ab_sc a + _
      rw [hs]
    | succ q => 
      show ab_sc a + ab_sz (r.set q d) = ab_sc a + ab_sz r
      rw [ih (by simpa using h)]
theorem ab_sz_app (cs : List ab_C) (c : ab_C) : ab_sz (cs ++ [c]) = ab_sz cs + ab_sc c := by
  unfold ab_sz
  rw [List.map_append, List.sum_append]
  simp
theorem ab_upI {l : List Int32} {i : Nat} {x : Int32} (h : i < l.length) : upd (fun j => l.getD j 0) i x = fun j => (l.set i x).getD j 0 := by
  funext j
  unfold upd
  by_cases hj : j = i
  · subst hj
    rw [if_pos rfl, List.getD_eq_getElem?_getD, List.getElem?_set_self h]
    rfl
  · rw [if_neg hj]
    show l.getD j 0 = (l.set i x).getD j 0
    rw [List.getD_eq_getElem?_getD, List.getD_eq_getElem?_getD, List.getElem?_set_ne (fun q => hj q.symm)]
theorem ab_upL {l : List Int64} {i : Nat} {x : Int64} (h : i < l.length) : vp_updL (fun j => l.getD j 0) i x = fun j => (l.set i x).getD j 0 := by
  funext j
  unfold vp_updL
  by_cases hj : j = i
  · subst hj
    rw [if_pos rfl, List.getD_eq_getElem?_getD, List.getElem?_set_self h]
    rfl
  · rw [if_neg hj]
    show l.getD j 0 = (l.set i x).getD j 0
    rw [List.getD_eq_getElem?_getD, List.getD_eq_getElem?_getD, List.getElem?_set_ne (fun q => hj q.symm)]
theorem ab_upQ (ad : Nat → Nat) {l : List (Option Nat)} {i : Nat} {x : Nat} (h : i < l.length) : va_up (fun j => (l.getD j none).map ad) i (some (ad x)) = fun j => ((l.set i (some x)).getD j none).map ad := by
  funext j
  unfold va_up
  by_cases hj : j = i
  · subst hj
    rw [if_pos rfl, List.getD_eq_getElem?_getD, List.getElem?_set_self h]
    rfl
  · rw [if_neg hj]
    show (l.getD j none).map ad = ((l.set i (some x)).getD j none).map ad
    rw [List.getD_eq_getElem?_getD, List.getD_eq_getElem?_getD, List.getElem?_set_ne (fun q => hj q.symm)]
theorem ab_cpl {α : Type} {f g : List α} {sp dp n : Nat} (h1 : sp + n ≤ f.length) (h2 : dp + n ≤ g.length) : (ab_cp f g sp dp n).length = g.length := by
  unfold ab_cp
  simp
  omega
theorem ab_cpd {α : Type} {f g : List α} {d : α} {sp dp n : Nat} (h1 : sp + n ≤ f.length) (h2 : dp + n ≤ g.length) : va_cpy (fun j => f.getD j d) (fun j => g.getD j d) sp dp n = fun j => (ab_cp f g sp dp n).getD j d := by
  funext j
  unfold va_cpy ab_cp
  simp only [List.getD_eq_getElem?_getD]
  by_cases h : dp ≤ j ∧ j < dp + n
  · rw [if_pos h, List.getElem?_append_right (by simp; omega), List.getElem?_append_left (by simp; omega), List.getElem?_take_of_lt (by simp; omega), List.getElem?_drop]
    congr 2
    simp
    omega
  · rw [if_neg h]
    by_cases h3 : j < dp
    · rw [List.getElem?_append_left (by simp; omega), List.getElem?_take_of_lt h3]
    · rw [List.getElem?_append_right (by simp; omega), List.getElem?_append_right (by simp; omega), List.getElem?_drop]
      congr 2
      simp
      omega
theorem ab_dfl (ad : Nat → Nat) (ty : Nat → FieldType) (N : Nat) : (ab_df ty N).map (ab_v ad) = ab_df ty N := by
  unfold ab_df
  rw [List.map_map]
  refine List.map_congr_left (fun j _ => ?_)
  show ab_v ad (defaultValue (ty j)) = defaultValue (ty j)
  cases ty j <;> rfl
theorem ab_dfv (ty : Nat → FieldType) (N : Nat) : ∀ j, j < N → defaultValue (ty j) = vp_V (ab_df ty N) j := by
  intro j hj
  unfold vp_V ab_df
  rw [List.getD_eq_getElem?_getD, List.getElem?_map, List.getElem?_range hj]
  rfl
theorem ab_ft_n {ty : FieldType} {v : Value} (h : ab_ft ty v = true) (ad : Nat → Nat) : narrow ty (ab_v ad v) = ab_v ad v ∧ fits ty (ab_v ad v) = true := by
  unfold ab_ft at h
  split at h
  · exact ⟨rfl, rfl⟩
  · exact ⟨rfl, rfl⟩
  · rename_i x
    have h : x = 0 ∨ x = 1 := by simpa using h
    rcases h with rfl | rfl
    · exact ⟨show narrow .boolean (.int 0) = .int 0 by decide, show fits .boolean (.int 0) = true by decide⟩
    · exact ⟨show narrow .boolean (.int 1) = .int 1 by decide, show fits .boolean (.int 1) = true by decide⟩
  · exact ⟨rfl, rfl⟩
  · exact ⟨rfl, rfl⟩
  · exact ⟨rfl, rfl⟩
  · exact ⟨rfl, rfl⟩
  · cases h
/-! the words that a step rests on -/
def ab_wd (Sl : List (String × String)) (M : List ab_D) (G : Nat → Option ab_T) (own : String) (ins : Instr) (k : ab_K) : List Jvm.Cond := match ins with
  | .getfield i => (match G k.2.1 with
    | some (_, T, _, _) => [.fieldLink own i (T k.2.2).1 (T k.2.2).2.1 (T k.2.2).2.2.1]
    | none => [])
  | .putfield i => (match G k.2.1 with
    | some (_, T, _, _) => [.fieldLink own i (T k.2.2).1 (T k.2.2).2.1 (T k.2.2).2.2.1]
    | none => [])
  | .new i => (match G k.2.1 with
    | some (C, _, N, _) => [.classLink own i C, .instantiable C N, .initialized C]
    | none => [])
  | .anewarray i => (match G k.2.1 with
    | some (C, _, _, _) => [.classLink own i C]
    | none => [])
  | .newarray ty => [.arrayClass (newarray.typeOf ty)]
  | .ldc i => if k.1 = 10 then [.constant own i (Int32.ofNat k.2.1)] else []
  | .ldc_w i => if k.1 = 10 then [.constant own i (Int32.ofNat k.2.1)] else []
  | .ldc2_w i => if k.1 = 11 then [.constantLong own i (Int64.ofNat k.2.1)] else []
  | .getstatic i => if k.1 = 13 then (match Sl[k.2.1]? with
    | some q => [.fieldLink own i q.1 q.2 "[I"]
    | none => []) else []
  | .invokestatic i => if k.1 = 7 then [.methodLink own i Lib.Math.max.name, .static Lib.Math.max.name, .initialized "java/lang/Math", .code Lib.Math.max.name Lib.Math.max.code 2 (some .int)]
    else if k.1 = 8 then [.methodLink own i Lib.Math.min.name, .static Lib.Math.min.name, .initialized "java/lang/Math", .code Lib.Math.min.name Lib.Math.min.code 2 (some .int)]
    else if k.1 = 9 then [.methodLink own i arraycopyName, .native arraycopyName, .static arraycopyName, .initialized "java/lang/System"]
    else (match M[k.2.1]? with
      | some md => [.methodLink own i md.1, .static md.1, .initialized md.1.cls]
      | none => [])
  | .invokevirtual i => (match M[k.2.1]? with
    | some md => [.methodLink own i md.1, .instanceMethod md.1, .selects md.1.cls md.1 md.1, .initialized md.1.cls]
    | none => [])
  | .invokespecial i => if k.1 = 6 then [.methodLink own i objectInit, .instanceMethod objectInit, .code objectInit ⟨#[0xb1]⟩ 1 none]
    else if k.1 = 15 then (match M[k.2.1]? with
      | some md => [.instanceMethod md.1, .initialized md.1.cls]
      | none => [])
    else (match M[k.2.1]? with
      | some md => [.methodLink own i md.1, .instanceMethod md.1, .initialized md.1.cls]
      | none => [])
  | _ => []
/-- the links of nest mates that a step rests on -/
abbrev ab_N : Type := List (String × Nat × MethodName × String)
/-- the class of ab_Z, the links of nest mates, the arrays that stay, the static fields that hold them -/
abbrev ab_X : Type := String × ab_N × List (List Int32) × List (String × String)
def ab_nd (Nl : ab_N) (Sl : List (String × String)) (M : List ab_D) (own : String) (ins : Instr) (k : ab_K) : Prop := (∀ i my, ins = .invokespecial i → k.1 = 15 → M[k.2.1]? = some my → ∃ host : String, (own, i, my.1, host) ∈ Nl) ∧ ∀ i, ins = .getstatic i → k.1 = 13 → ¬ Sl[k.2.1]? = none
end
section
/-! steps over the world -/
def ab_cg (cl : List vw_C) (Ts : List Jvm.Cond) (G : Nat → Option ab_T) : Prop := ∀ (ci : Nat) (C : String) (T : u_T) (N : Nat) (ty : Nat → FieldType), G ci = some (C, T, N, ty) → cl[ci]? = some (C, T, N) ∧ (∀ w ∈ u_ws C T N, w ∈ Ts) ∧ (∀ k, k < N → parseFieldDescriptor (T k).2.2.1 = some (ty k)) ∧ (∀ a, a < N → ∀ b, b < N → a ≠ b → (T a).2.1 ≠ (T b).2.1) ∧ (∀ k, k < N → (T k).1 = C)
def ab_ty (K : ab_Q) (Cq : String) : List (ClassId × FieldType) := [(K.1, .int), (K.2.1, .long), (K.2.2, .object Cq)]
theorem ab_off (a : Nat) (h : ¬ a < 1000000) : 1000000 + (a - 1000000) = a := by omega
/-- arrays that stay as they are, and the static fields that hold them -/
def ab_TT (Tb : List (List Int32)) (Sl : List (String × String)) (ad : Nat → Nat) (A : Nat → Prop) (U : State) (H : Heap) : Prop :=
  (∀ (j : Nat) (t : List Int32), Tb[j]? = some t → va_T .int (ad (1000000 + j)) t.length (fun i => .int (t.getD i 0)) A U H) ∧ ∀ (j : Nat) (q : String × String), Sl[j]? = some q → va_Z q.1 q.2 "[I" (.ref (ad (1000000 + j))) A U H
theorem ab_TT.ad {Tb : List (List Int32)} {Sl : List (String × String)} {ad ad' : Nat → Nat} {A : Nat → Prop} {U : State} {H : Heap} (h : ab_TT Tb Sl ad A U H) (e : ∀ k, 1000000 ≤ k → ad' k = ad k) : ab_TT Tb Sl ad' A U H :=
  ⟨fun j t q => by rw [e _ (by omega)]; exact h.1 j t q, fun j q r => by rw [e _ (by omega)]; exact h.2 j q r⟩
theorem ab_TT.go {Tb : List (List Int32)} {Sl : List (String × String)} {ad : Nat → Nat} {A B : Nat → Prop} {u U : State} {H H1 : Heap} (h : ab_TT Tb Sl ad A u H) (hq : ∀ a : Nat, a < H.size → ¬ A a → H1[a]? = H[a]?) (hvm : u.vm.Alike U.vm) (hAB : ∀ q, B q → A q) : ab_TT Tb Sl ad B U H1 :=
  ⟨fun j t q => (((h.1 j t q).kept hq).moved hvm).narrow hAB, fun j q r => (((h.2 j q r).kept hq).moved hvm).narrow hAB⟩
section ABS4
variable {p : Program} {l : Launch} {e : Env} {R : Room} {s : State} {m : MethodId} {args : Array Value} {below : List Frame} {meth : Method} {c : Code} {H : Heap} {locs : List Loc} {cells slots : Nat} {Q : State → Prop}
variable {cc : ByteArray} {pc : Nat} {ls : Array Slot} {D : va_G} {cl : List vw_C} {A : Nat → Prop} {H0 : Heap} {K : ab_Q} {Cq own : String} {ad : Nat → Nat} {cs cs2 : List ab_C} {st st2 : List Value} {Ts : List Jvm.Cond} {G : Nat → Option ab_T} {M : List ab_D} {len : Nat} {Tb : List (List Int32)} {Sl : List (String × String)}
theorem ab_gf_ok (hx : p.tables.exec = Jvm.exec) (hb : c.code = cc) (hown : s.vm.findClass own = some m.cls) (hts : ∀ w ∈ Ts, w.before args s = true) (hG : ab_cg cl Ts G) (hK : va_K D cl (ab_ty K Cq) s)
    {i : Nat} {k : ab_K} (hdg : decode cc pc = .ok (.getfield i, 3)) (hW : ∀ w ∈ ab_wd Sl M G own (.getfield i) k, w.before args s = true) (h : ab_gf G k.2.1 k.2.2 st cs = some (st2, cs2)) (hP : va_P D cl (ab_w K ad 0 cs) H)
    (kk : cs2 = cs → W p l e R s m args below meth c H locs cells slots Q (F0 m (pc + 3) ls (st2.map (ab_v ad)))) : W p l e R s m args below meth c H locs cells slots Q (F0 m pc ls (st.map (ab_v ad))) := by
  unfold ab_gf at h
  split at h
  · rename_i a r
    split at h
    · rename_i ci fs C T N ty he hg
      split at h
      · rename_i hc
        obtain ⟨hci, hkN⟩ := hc
        subst hci
        obtain ⟨h1, h2, h3, h4, h5⟩ := hG _ _ _ _ _ hg
        split at h
        · rename_i v hv
          cases h
          have hlink := hW (.fieldLink own i (T k.2.2).1 (T k.2.2).2.1 (T k.2.2).2.2.1) (by unfold ab_wd; rw [hg]; exact List.mem_cons_self)
          exact va_get hx hb hts h2 hown hK hP a (ab_w_at he) h1 k.2.2 hkN hlink (fun _ q => q) (v := ab_v ad v) (by rw [List.getElem?_map, hv]; rfl) hdg (kk rfl)
        · cases h
      · cases h
    · cases h
  · cases h
theorem ab_pf_ok (hx : p.tables.exec = Jvm.exec) (hb : c.code = cc) (hown : s.vm.findClass own = some m.cls) (hts : ∀ w ∈ Ts, w.before args s = true) (hG : ab_cg cl Ts G) {o : Nat} {isI : Bool} (howG : ∀ C T N ty, G o = some (C, T, N, ty) → C = own) (hI : isI = true → meth.name = "<init>") (hK : va_K D cl (ab_ty K Cq) s)
    {i : Nat} {k : ab_K} (hdg : decode cc pc = .ok (.putfield i, 3)) (hW : ∀ w ∈ ab_wd Sl M G own (.putfield i) k, w.before args s = true) (h : ab_pf G o isI k.2.1 k.2.2 st cs = some (st2, cs2)) (hP : va_P D cl (ab_w K ad 0 cs) H) (hD : va_D A (ab_w K ad 0 cs)) (hS : va_S A H0 H locs)
    (kk : ∀ (H1 : Heap) (locs1 : List Loc), va_P D cl (ab_w K ad 0 cs2) H1 → va_D A (ab_w K ad 0 cs2) → va_S A H0 H1 locs1 → W p l e R s m args below meth c H1 locs1 cells slots Q (F0 m (pc + 3) ls (st2.map (ab_v ad)))) : W p l e R s m args below meth c H locs cells slots Q (F0 m pc ls (st.map (ab_v ad))) := by
  unfold ab_pf at h
  split at h
  · rename_i v a r
    split at h
    · rename_i ci fs C T N ty he hg
      split at h
      · rename_i hc
        obtain ⟨hci, hfN, hfl, hft, hfin⟩ := hc
        subst hci
        cases h
        obtain ⟨h1, h2, h3, h4, h5⟩ := hG _ _ _ _ _ hg
        have hlink := hW (.fieldLink own i (T k.2.2).1 (T k.2.2).2.1 (T k.2.2).2.2.1) (by unfold ab_wd; rw [hg]; exact List.mem_cons_self)
        obtain ⟨n1, n2⟩ := ab_ft_n hft ad
        have hset : (ab_w K ad 0 cs).set a (ad a, .inr (k.2.1, (fs.map (ab_v ad)).set k.2.2 (ab_v ad v))) = ab_w K ad 0 (cs.set a (.inr (.inr (.inr (k.2.1, fs.set k.2.2 v))))) := by
          rw [← ab_w_put]
          show _ = (ab_w K ad 0 cs).set a (ad a, .inr (k.2.1, (fs.set k.2.2 v).map (ab_v ad)))
          rw [List.map_set]
        cases hf : (T k.2.2).2.2.2 with
        | false =>
          exact va_put hx hb hts h2 ty h3 h4 hown hK hP hD hS a (ab_w_at he) h1 k.2.2 hfN hlink (fun _ q => q) hf (h3 _ hfN) n1 n2 (by rw [List.length_map]; exact hfl) hdg (fun H1 locs1 p1 d1 s1 => by rw [hset] at p1 d1; exact kk H1 locs1 p1 d1 s1)
        | true =>
          obtain ⟨g1, g2⟩ := hfin hf
          have hdecl : (T k.2.2).1 = own := (h5 _ hfN).trans (howG C T N ty (g2 ▸ hg))
          exact va_putF hx hb hts h2 ty h3 h4 hown hK hP hD hS a (ab_w_at he) h1 k.2.2 hfN hlink (fun _ q => q) hf (hI g1) hdecl (h3 _ hfN) n1 n2 (by rw [List.length_map]; exact hfl) hdg (fun H1 locs1 p1 d1 s1 => by rw [hset] at p1 d1; exact kk H1 locs1 p1 d1 s1)
      · cases h
    · cases h
  · cases h
theorem ab_ia_ok (hx : p.tables.exec = Jvm.exec) (hb : c.code = cc) (hK : va_K D cl (ab_ty K Cq) s) (hTT : ab_TT Tb Sl ad A s s.heap) (hS : va_S A s.heap H locs) (hdg : decode cc pc = .ok (.iaload, 1)) (h : ab_ia Tb st cs = some (st2, cs2)) (hP : va_P D cl (ab_w K ad 0 cs) H)
    (kk : cs2 = cs → W p l e R s m args below meth c H locs cells slots Q (F0 m (pc + 1) ls (st2.map (ab_v ad)))) : W p l e R s m args below meth c H locs cells slots Q (F0 m pc ls (st.map (ab_v ad))) := by
  unfold ab_ia at h
  split at h
  · rename_i i a r
    split at h
    · rename_i q he
      split at h
      · cases h
      · rename_i hin
        cases h
        exact va_iald hx hb hK hP a 0 (ab_w_at he) rfl hin hdg (kk rfl)
    · split at h
      · rename_i t ht
        split at h
        · cases h
        · rename_i hin
          obtain ⟨ha, hin⟩ := not_or.mp hin
          cases h
          have h1 := hTT.1 _ _ ht
          rw [ab_off a ha] at h1
          exact va_ti hx hb h1 hS hin rfl hdg (kk rfl)
      · cases h
    · cases h
  · cases h
theorem ab_la_ok (hx : p.tables.exec = Jvm.exec) (hb : c.code = cc) (hK : va_K D cl (ab_ty K Cq) s) (hdg : decode cc pc = .ok (.laload, 1)) (h : ab_la st cs = some (st2, cs2)) (hP : va_P D cl (ab_w K ad 0 cs) H)
    (kk : cs2 = cs → W p l e R s m args below meth c H locs cells slots Q (F0 m (pc + 1) ls (st2.map (ab_v ad)))) : W p l e R s m args below meth c H locs cells slots Q (F0 m pc ls (st.map (ab_v ad))) := by
  unfold ab_la at h
  split at h
  · rename_i i a r
    split at h
    · rename_i q he
      split at h
      · cases h
      · rename_i hin
        cases h
        exact va_lald hx hb hK hP a 1 (ab_w_at he) rfl hin hdg (kk rfl)
    · cases h
  · cases h
theorem ab_vr_v (ad : Nat → Nat) (o : Option Nat) : ab_v ad (ab_vr o) = va_rf (o.map ad) := by cases o <;> rfl
theorem ab_aa_ok (hx : p.tables.exec = Jvm.exec) (hb : c.code = cc) (hK : va_K D cl (ab_ty K Cq) s) (hdg : decode cc pc = .ok (.aaload, 1)) (h : ab_aa st cs = some (st2, cs2)) (hP : va_P D cl (ab_w K ad 0 cs) H)
    (kk : cs2 = cs → W p l e R s m args below meth c H locs cells slots Q (F0 m (pc + 1) ls (st2.map (ab_v ad)))) : W p l e R s m args below meth c H locs cells slots Q (F0 m pc ls (st.map (ab_v ad))) := by
  unfold ab_aa at h
  split at h
  · rename_i i a r
    split at h
    · rename_i q he
      split at h
      · cases h
      · rename_i hin
        cases h
        have k1 := kk rfl
        rw [List.map_cons, ab_vr_v] at k1
        exact va_aldq hx hb hK hP a 2 (ab_w_at he) rfl hin hdg k1
    · cases h
  · cases h
theorem ab_is_ok (hx : p.tables.exec = Jvm.exec) (hb : c.code = cc) (hK : va_K D cl (ab_ty K Cq) s) (hdg : decode cc pc = .ok (.iastore, 1)) (h : ab_is st cs = some (st2, cs2)) (hP : va_P D cl (ab_w K ad 0 cs) H) (hD : va_D A (ab_w K ad 0 cs)) (hS : va_S A H0 H locs)
    (kk : ∀ (H1 : Heap) (locs1 : List Loc), va_P D cl (ab_w K ad 0 cs2) H1 → va_D A (ab_w K ad 0 cs2) → va_S A H0 H1 locs1 → W p l e R s m args below meth c H1 locs1 cells slots Q (F0 m (pc + 1) ls (st2.map (ab_v ad)))) : W p l e R s m args below meth c H locs cells slots Q (F0 m pc ls (st.map (ab_v ad))) := by
  unfold ab_is at h
  split at h
  · rename_i x i a r
    split at h
    · rename_i q he
      split at h
      · cases h
      · rename_i hin
        cases h
        have hlt : i.toNatClampNeg < q.length := Nat.not_le.mp (not_or.mp hin).2
        have hset : (ab_w K ad 0 cs).set a (ad a, .inl (K.1, q.length, .inl (upd (fun j => q.getD j 0) i.toNatClampNeg x))) = ab_w K ad 0 (cs.set a (.inl (q.set i.toNatClampNeg x))) := by
          rw [← ab_w_put, ab_upI hlt]
          show _ = List.set (ab_w K ad 0 cs) a (ad a, Sum.inl (K.1, (q.set i.toNatClampNeg x).length, _))
          rw [List.length_set]
        exact va_iast hx hb hK hP hD hS a 0 (ab_w_at he) rfl hin hdg (fun H1 locs1 p1 d1 s1 => by rw [hset] at p1 d1; exact kk H1 locs1 p1 d1 s1)
    · cases h
  · cases h
theorem ab_lst_ok (hx : p.tables.exec = Jvm.exec) (hb : c.code = cc) (hK : va_K D cl (ab_ty K Cq) s) (hdg : decode cc pc = .ok (.lastore, 1)) (h : ab_lst st cs = some (st2, cs2)) (hP : va_P D cl (ab_w K ad 0 cs) H) (hD : va_D A (ab_w K ad 0 cs)) (hS : va_S A H0 H locs)
    (kk : ∀ (H1 : Heap) (locs1 : List Loc), va_P D cl (ab_w K ad 0 cs2) H1 → va_D A (ab_w K ad 0 cs2) → va_S A H0 H1 locs1 → W p l e R s m args below meth c H1 locs1 cells slots Q (F0 m (pc + 1) ls (st2.map (ab_v ad)))) : W p l e R s m args below meth c H locs cells slots Q (F0 m pc ls (st.map (ab_v ad))) := by
  unfold ab_lst at h
  split at h
  · rename_i x i a r
    split at h
    · rename_i q he
      split at h
      · cases h
      · rename_i hin
        cases h
        have hlt : i.toNatClampNeg < q.length := Nat.not_le.mp (not_or.mp hin).2
        have hset : (ab_w K ad 0 cs).set a (ad a, .inl (K.2.1, q.length, .inr (.inl (vp_updL (fun j => q.getD j 0) i.toNatClampNeg x)))) = ab_w K ad 0 (cs.set a (.inr (.inl (q.set i.toNatClampNeg x)))) := by
          rw [← ab_w_put, ab_upL hlt]
          show _ = List.set (ab_w K ad 0 cs) a (ad a, Sum.inl (K.2.1, (q.set i.toNatClampNeg x).length, _))
          rw [List.length_set]
        exact va_last hx hb hK hP hD hS a 1 (ab_w_at he) rfl hin hdg (fun H1 locs1 p1 d1 s1 => by rw [hset] at p1 d1; exact kk H1 locs1 p1 d1 s1)
    · cases h
  · cases h
theorem ab_as_ok (hx : p.tables.exec = Jvm.exec) (hb : c.code = cc) (hG : ab_cg cl Ts G) {cq : Nat} (hcq : ∃ T N ty, G cq = some (Cq, T, N, ty)) (hK : va_K D cl (ab_ty K Cq) s) (hdg : decode cc pc = .ok (.aastore, 1)) (h : ab_as cq st cs = some (st2, cs2)) (hP : va_P D cl (ab_w K ad 0 cs) H) (hD : va_D A (ab_w K ad 0 cs)) (hS : va_S A H0 H locs)
    (kk : ∀ (H1 : Heap) (locs1 : List Loc), va_P D cl (ab_w K ad 0 cs2) H1 → va_D A (ab_w K ad 0 cs2) → va_S A H0 H1 locs1 → W p l e R s m args below meth c H1 locs1 cells slots Q (F0 m (pc + 1) ls (st2.map (ab_v ad)))) : W p l e R s m args below meth c H locs cells slots Q (F0 m pc ls (st.map (ab_v ad))) := by
  obtain ⟨T, N, ty, hg⟩ := hcq
  obtain ⟨h1, -⟩ := hG _ _ _ _ _ hg
  unfold ab_as at h
  split at h
  · rename_i x i a r
    split at h
    · rename_i q ci fs he he2
      split at h
      · rename_i hci
        subst hci
        split at h
        · cases h
        · rename_i hin
          cases h
          have hlt : i.toNatClampNeg < q.length := Nat.not_le.mp (not_or.mp hin).2
          have hset : (ab_w K ad 0 cs).set a (ad a, .inl (K.2.2, q.length, .inr (.inr (.inr (.inr (va_up (fun j => (q.getD j none).map ad) i.toNatClampNeg (some (ad x)))))))) = ab_w K ad 0 (cs.set a (.inr (.inr (.inl (q.set i.toNatClampNeg (some x)))))) := by
            rw [← ab_w_put, ab_upQ ad hlt]
            show _ = (ab_w K ad 0 cs).set a (ad a, .inl (K.2.2, (q.set i.toNatClampNeg (some x)).length, _))
            rw [List.length_set]
          exact va_astq hx hb hK hP hD hS a 2 x ci (ab_w_at he) rfl (ab_w_at he2) h1 hin hdg (fun H1 locs1 p1 d1 s1 => by rw [hset] at p1 d1; exact kk H1 locs1 p1 d1 s1)
      · cases h
    · cases h
  · cases h
theorem ab_al_ok (hx : p.tables.exec = Jvm.exec) (hb : c.code = cc) (hK : va_K D cl (ab_ty K Cq) s) (hTT : ab_TT Tb Sl ad A s s.heap) (hS : va_S A s.heap H locs) (hdg : decode cc pc = .ok (.arraylength, 1)) (h : ab_al Tb st cs = some (st2, cs2)) (hP : va_P D cl (ab_w K ad 0 cs) H)
    (kk : cs2 = cs → W p l e R s m args below meth c H locs cells slots Q (F0 m (pc + 1) ls (st2.map (ab_v ad)))) : W p l e R s m args below meth c H locs cells slots Q (F0 m pc ls (st.map (ab_v ad))) := by
  unfold ab_al at h
  split at h
  · rename_i a r
    split at h
    · rename_i q he
      cases h
      exact va_alen hx hb hK hP a 0 (ab_w_at he) rfl rfl hdg (kk rfl)
    · rename_i q he
      cases h
      exact va_alen hx hb hK hP a 1 (ab_w_at he) rfl rfl hdg (kk rfl)
    · rename_i q he
      cases h
      exact va_alen hx hb hK hP a 2 (ab_w_at he) rfl rfl hdg (kk rfl)
    · split at h
      · rename_i t ht
        split at h
        · cases h
        · rename_i ha
          cases h
          have h1 := hTT.1 _ _ ht
          rw [ab_off a ha] at h1
          exact va_tlen hx hb h1 hS rfl hdg (kk rfl)
      · cases h
    · cases h
  · cases h
theorem ab_cy_ok (hx : p.tables.exec = Jvm.exec) (hb : c.code = cc) (hml : c.maxLocals = ls.size) (hown : s.vm.findClass own = some m.cls) (hR : 1 ≤ R.frames ∧ 100 ≤ R.locals) (hK : va_K D cl (ab_ty K Cq) s) {i : Nat} (hdg : decode cc pc = .ok (.invokestatic i, 3))
    (w1 : (Jvm.Cond.methodLink own i arraycopyName).before args s = true) (w2 : (Jvm.Cond.native arraycopyName).before args s = true) (w3 : (Jvm.Cond.static arraycopyName).before args s = true) (w4 : (Jvm.Cond.initialized "java/lang/System").before args s = true)
    (h : ab_cy st cs = some (st2, cs2)) (hP : va_P D cl (ab_w K ad 0 cs) H) (hD : va_D A (ab_w K ad 0 cs)) (hS : va_S A H0 H locs)
    (kk : ∀ (H1 : Heap) (locs1 : List Loc), va_P D cl (ab_w K ad 0 cs2) H1 → va_D A (ab_w K ad 0 cs2) → va_S A H0 H1 locs1 → W p l e R s m args below meth c H1 locs1 cells slots Q (F0 m (pc + 3) ls (st2.map (ab_v ad)))) : W p l e R s m args below meth c H locs cells slots Q (F0 m pc ls (st.map (ab_v ad))) := by
  unfold ab_cy at h
  split at h
  · rename_i n dp a sp a0 r
    split at h
    · cases h
    · rename_i hn
      obtain ⟨n1, hn⟩ := not_or.mp hn
      obtain ⟨n2, hn⟩ := not_or.mp hn
      obtain ⟨n3, n4⟩ := not_or.mp hn
      have hlo : ((r.map (ab_v ad)).map fun v => v.category).sum + (nativeFrameWords "java/lang/System" "arraycopy" 5 + 11) ≤ R.locals := by
        rw [ab_sm_map]
        have : nativeFrameWords "java/lang/System" "arraycopy" 5 ≤ 7 := by decide
        omega
      split at h
      · rename_i f g he0 he
        split at h
        · rename_i hq
          cases h
          have hset : (ab_w K ad 0 cs).set a (ad a, .inl (K.1, g.length, .inl (va_cpy (fun j => f.getD j 0) (fun j => g.getD j 0) sp.toNatClampNeg dp.toNatClampNeg n.toNatClampNeg))) = ab_w K ad 0 (cs.set a (.inl (ab_cp f g sp.toNatClampNeg dp.toNatClampNeg n.toNatClampNeg))) := by
            rw [← ab_w_put, ab_cpd hq.1 hq.2]
            show _ = List.set (ab_w K ad 0 cs) a (ad a, Sum.inl (K.1, (ab_cp f g sp.toNatClampNeg dp.toNatClampNeg n.toNatClampNeg).length, _))
            rw [ab_cpl hq.1 hq.2]
          exact va_copyi hx hb hml hown w1 w2 w3 w4 hK hP hD hS a0 a 0 0 (ab_w_at he0) (ab_w_at he) rfl rfl rfl n3 n2 n1 hq.1 hq.2 (fun _ _ => rfl) hR.1 hlo hdg (fun H1 locs1 p1 d1 s1 => by rw [hset] at p1 d1; exact kk H1 locs1 p1 d1 s1)
        · cases h
      · rename_i f g he0 he
        split at h
        · rename_i hq
          cases h
          have hset : (ab_w K ad 0 cs).set a (ad a, .inl (K.2.1, g.length, .inr (.inl (va_cpy (fun j => f.getD j 0) (fun j => g.getD j 0) sp.toNatClampNeg dp.toNatClampNeg n.toNatClampNeg)))) = ab_w K ad 0 (cs.set a (.inr (.inl (ab_cp f g sp.toNatClampNeg dp.toNatClampNeg n.toNatClampNeg)))) := by
            rw [← ab_w_put, ab_cpd hq.1 hq.2]
            show _ = List.set (ab_w K ad 0 cs) a (ad a, Sum.inl (K.2.1, (ab_cp f g sp.toNatClampNeg dp.toNatClampNeg n.toNatClampNeg).length, _))
            rw [ab_cpl hq.1 hq.2]
          exact va_copyl hx hb hml hown w1 w2 w3 w4 hK hP hD hS a0 a 1 1 (ab_w_at he0) (ab_w_at he) rfl rfl rfl n3 n2 n1 hq.1 hq.2 (fun _ _ => rfl) hR.1 hlo hdg (fun H1 locs1 p1 d1 s1 => by rw [hset] at p1 d1; exact kk H1 locs1 p1 d1 s1)
        · cases h
      · cases h
  · cases h
theorem ab_oi_ok (hx : p.tables.exec = Jvm.exec) (hb : c.code = cc) (hml : c.maxLocals = ls.size) (hown : s.vm.findClass own = some m.cls) (hR : 1 ≤ R.frames ∧ 100 ≤ R.locals) {i : Nat} (hdg : decode cc pc = .ok (.invokespecial i, 3))
    (w1 : (Jvm.Cond.methodLink own i objectInit).before args s = true) (w2 : (Jvm.Cond.instanceMethod objectInit).before args s = true) (w3 : (Jvm.Cond.code objectInit ⟨#[0xb1]⟩ 1 none).before args s = true)
    (h : ab_oi st cs = some (st2, cs2)) (kk : cs2 = cs → W p l e R s m args below meth c H locs cells slots Q (F0 m (pc + 3) ls (st2.map (ab_v ad)))) : W p l e R s m args below meth c H locs cells slots Q (F0 m pc ls (st.map (ab_v ad))) := by
  unfold ab_oi at h
  split at h
  · rename_i a r
    split at h
    · rename_i hs
      cases h
      exact W.objInit hx hb hown w1 w2 w3 (g := F0 m pc ls ((Value.ref a :: st2).map (ab_v ad))) rfl hml.symm rfl hdg hR.1 (by rw [ab_sm_map]; show 2 * 0 + _ + 12 ≤ _; omega) (kk rfl)
    · cases h
  · cases h
theorem ab_mx_ok (hx : p.tables.exec = Jvm.exec) (hb : c.code = cc) (hml : c.maxLocals = ls.size) (hown : s.vm.findClass own = some m.cls) (hR : 1 ≤ R.frames ∧ 100 ≤ R.locals) (hce : cells ≤ R.cells) (hsl : slots ≤ R.slots) {i : Nat} (hdg : decode cc pc = .ok (.invokestatic i, 3))
    (w1 : (Jvm.Cond.methodLink own i Lib.Math.max.name).before args s = true) (w2 : (Jvm.Cond.static Lib.Math.max.name).before args s = true) (w3 : (Jvm.Cond.initialized "java/lang/Math").before args s = true) (w4 : (Jvm.Cond.code Lib.Math.max.name Lib.Math.max.code 2 (some .int)).before args s = true)
    (h : ab_mx st cs = some (st2, cs2)) (kk : cs2 = cs → W p l e R s m args below meth c H locs cells slots Q (F0 m (pc + 3) ls (st2.map (ab_v ad)))) : W p l e R s m args below meth c H locs cells slots Q (F0 m pc ls (st.map (ab_v ad))) := by
  unfold ab_mx at h
  split at h
  · rename_i y x r
    split at h
    · rename_i hs
      cases h
      exact va_mmax hx hb hml hown w1 w2 w3 w4 hR.1 (by rw [ab_sm_map]; omega) hce hsl hdg (kk rfl)
    · cases h
  · cases h
theorem ab_mn_ok (hx : p.tables.exec = Jvm.exec) (hb : c.code = cc) (hml : c.maxLocals = ls.size) (hown : s.vm.findClass own = some m.cls) (hR : 1 ≤ R.frames ∧ 100 ≤ R.locals) (hce : cells ≤ R.cells) (hsl : slots ≤ R.slots) {i : Nat} (hdg : decode cc pc = .ok (.invokestatic i, 3))
    (w1 : (Jvm.Cond.methodLink own i Lib.Math.min.name).before args s = true) (w2 : (Jvm.Cond.static Lib.Math.min.name).before args s = true) (w3 : (Jvm.Cond.initialized "java/lang/Math").before args s = true) (w4 : (Jvm.Cond.code Lib.Math.min.name Lib.Math.min.code 2 (some .int)).before args s = true)
    (h : ab_mn st cs = some (st2, cs2)) (kk : cs2 = cs → W p l e R s m args below meth c H locs cells slots Q (F0 m (pc + 3) ls (st2.map (ab_v ad)))) : W p l e R s m args below meth c H locs cells slots Q (F0 m pc ls (st.map (ab_v ad))) := by
  unfold ab_mn at h
  split at h
  · rename_i y x r
    split at h
    · rename_i hs
      cases h
      exact va_mmin hx hb hml hown w1 w2 w3 w4 hR.1 (by rw [ab_sm_map]; omega) hce hsl hdg (kk rfl)
    · cases h
  · cases h
set_option maxHeartbeats 4000000 in
theorem ab_hp_ok (hx : p.tables.exec = Jvm.exec) (hb : c.code = cc) (hml : c.maxLocals = ls.size) (hown : s.vm.findClass own = some m.cls) (hts : ∀ w ∈ Ts, w.before args s = true) (hG : ab_cg cl Ts G) {Z : ab_Z} {o : Nat} {isI : Bool} (hcq : ∃ T N ty, G Z.1 = some (Cq, T, N, ty)) (hTT : ab_TT Z.2 Sl ad A s s.heap) (howG : ∀ C T N ty, G o = some (C, T, N, ty) → C = own) (hI : isI = true → meth.name = "<init>") (hK : va_K D cl (ab_ty K Cq) s)
    (hR : 1 ≤ R.frames ∧ 100 ≤ R.locals) (hce : cells ≤ R.cells) (hsl : slots ≤ R.slots) {ins : Instr} {k : ab_K} (hdg : decode cc pc = .ok (ins, len)) (hln : ab_ln ins = len ∨ ab_ln ins = 0) (hW : ∀ w ∈ ab_wd Sl M G own ins k, w.before args s = true) (h13 : ∀ i, ins = .getstatic i → k.1 = 13 → ¬ Sl[k.2.1]? = none)
    (h : ab_hp G Z o isI ins k st cs = some (st2, cs2)) (hP : va_P D cl (ab_w K ad 0 cs) H) (hD : va_D A (ab_w K ad 0 cs)) (hS : va_S A s.heap H locs)
    (kk : ∀ (H1 : Heap) (locs1 : List Loc), va_P D cl (ab_w K ad 0 cs2) H1 → va_D A (ab_w K ad 0 cs2) → va_S A s.heap H1 locs1 → W p l e R s m args below meth c H1 locs1 cells slots Q (F0 m (pc + len) ls (st2.map (ab_v ad)))) : W p l e R s m args below meth c H locs cells slots Q (F0 m pc ls (st.map (ab_v ad))) := by
  have same : ∀ {n : Nat}, len = n → cs2 = cs → W p l e R s m args below meth c H locs cells slots Q (F0 m (pc + n) ls (st2.map (ab_v ad))) := fun hn q => by
    subst hn
    subst q
    exact kk H locs hP hD hS
  unfold ab_hp at h
  split at h
  · split at h
    · obtain rfl := ab_len (n := 2) rfl hln
      exact ab_gf_ok hx hb hown hts hG hK hdg hW h hP (same rfl)
    · cases h
  · split at h
    · obtain rfl := ab_len (n := 2) rfl hln
      exact ab_pf_ok hx hb hown hts hG howG hI hK hdg hW h hP hD hS kk
    · cases h
  · obtain rfl := ab_len (n := 0) rfl hln
    exact ab_ia_ok hx hb hK hTT hS hdg h hP (same rfl)
  · obtain rfl := ab_len (n := 0) rfl hln
    exact ab_la_ok hx hb hK hdg h hP (same rfl)
  · obtain rfl := ab_len (n := 0) rfl hln
    exact ab_aa_ok hx hb hK hdg h hP (same rfl)
  · obtain rfl := ab_len (n := 0) rfl hln
    exact ab_is_ok hx hb hK hdg h hP hD hS kk
  · obtain rfl := ab_len (n := 0) rfl hln
    exact ab_lst_ok hx hb hK hdg h hP hD hS kk
  · obtain rfl := ab_len (n := 0) rfl hln
    exact ab_as_ok hx hb hG hcq hK hdg h hP hD hS kk
  · obtain rfl := ab_len (n := 0) rfl hln
    exact ab_al_ok hx hb hK hTT hS hdg h hP (same rfl)
  · rename_i i
    obtain rfl := ab_len (n := 2) rfl hln
    split at h
    · rename_i h7
      have hw : ∀ w ∈ ([.methodLink own i Lib.Math.max.name, .static Lib.Math.max.name, .initialized "java/lang/Math", .code Lib.Math.max.name Lib.Math.max.code 2 (some .int)] : List Jvm.Cond), w.before args s = true := fun w q => hW w (by unfold ab_wd; dsimp only; rw [if_pos h7]; exact q)
      exact ab_mx_ok hx hb hml hown hR hce hsl hdg (hw _ (by simp)) (hw _ (by simp)) (hw _ (by simp)) (hw _ (by simp)) h (same rfl)
    · rename_i h7
      split at h
      · rename_i h8
        have hw : ∀ w ∈ ([.methodLink own i Lib.Math.min.name, .static Lib.Math.min.name, .initialized "java/lang/Math", .code Lib.Math.min.name Lib.Math.min.code 2 (some .int)] : List Jvm.Cond), w.before args s = true := fun w q => hW w (by unfold ab_wd; dsimp only; rw [if_neg h7, if_pos h8]; exact q)
        exact ab_mn_ok hx hb hml hown hR hce hsl hdg (hw _ (by simp)) (hw _ (by simp)) (hw _ (by simp)) (hw _ (by simp)) h (same rfl)
      · rename_i h8
        split at h
        · rename_i h9
          have hw : ∀ w ∈ ([.methodLink own i arraycopyName, .native arraycopyName, .static arraycopyName, .initialized "java/lang/System"] : List Jvm.Cond), w.before args s = true := fun w q => hW w (by unfold ab_wd; dsimp only; rw [if_neg h7, if_neg h8, if_pos h9]; exact q)
          exact ab_cy_ok hx hb hml hown hR hK hdg (hw _ (by simp)) (hw _ (by simp)) (hw _ (by simp)) (hw _ (by simp)) h hP hD hS kk
        · cases h
  · rename_i i
    obtain rfl := ab_len (n := 2) rfl hln
    split at h
    · rename_i h6
      have hw : ∀ w ∈ ([.methodLink own i objectInit, .instanceMethod objectInit, .code objectInit ⟨#[0xb1]⟩ 1 none] : List Jvm.Cond), w.before args s = true := fun w q => hW w (by unfold ab_wd; dsimp only; rw [if_pos h6]; exact q)
      exact ab_oi_ok hx hb hml hown hR hdg (hw _ (by simp)) (hw _ (by simp)) (hw _ (by simp)) h (same rfl)
    · cases h
  · split at h
    · rename_i h10
      cases h
      obtain rfl := ab_len (n := 1) rfl hln
      exact lv_ldc hx hb hown (hW _ (by unfold ab_wd; dsimp only; rw [if_pos h10]; exact List.mem_cons_self)) hdg (same rfl rfl)
    · cases h
  · split at h
    · rename_i h10
      cases h
      obtain rfl := ab_len (n := 2) rfl hln
      exact lv_ldcw hx hb hown (hW _ (by unfold ab_wd; dsimp only; rw [if_pos h10]; exact List.mem_cons_self)) hdg (same rfl rfl)
    · cases h
  · split at h
    · rename_i h11
      cases h
      obtain rfl := ab_len (n := 2) rfl hln
      exact lv_ldc2 hx hb hown (hW _ (by unfold ab_wd; dsimp only; rw [if_pos h11]; exact List.mem_cons_self)) hdg (same rfl rfl)
    · cases h
  · rename_i i
    split at h
    · rename_i h13k
      cases h
      obtain rfl := ab_len (n := 2) rfl hln
      cases hq : Sl[k.2.1]? with
      | none => exact absurd hq (h13 i rfl h13k)
      | some q => exact va_gets hx hb (hTT.2 _ _ hq) hS hown (hW _ (by unfold ab_wd; dsimp only; rw [if_pos h13k, hq]; exact List.mem_cons_self)) (fun _ q => q) hdg (same rfl rfl)
    · cases h
  · cases h
/-- a new cell -/
def ab_nx (ad : Nat → Nat) (n q : Nat) : Nat → Nat := fun j => if j = n then q else ad j
theorem ab_nx_old (ad : Nat → Nat) {n : Nat} (hn : n < 1000000) (q : Nat) : ∀ k, k < n ∨ 1000000 ≤ k → ab_nx ad n q k = ad k := fun k hk => if_neg (by omega)
theorem ab_nx_new (ad : Nat → Nat) (n q : Nat) : ab_nx ad n q n = q := if_pos rfl
theorem ab_K_last {t : FieldType} {cA : ClassId} {tys : List (ClassId × FieldType)} (h : va_K D cl (tys ++ [(cA, t)]) s) : va_RA s cA t := (h.2 tys.length (cA, t) (by simp)).2
theorem ab_w_new (K : ab_Q) (ad : Nat → Nat) (cs : List ab_C) (c1 : ab_C) (q : Nat) (hn : cs.length < 1000000) (hf : cs.all (ab_fc cs.length) = true) : ab_w K (ab_nx ad cs.length q) 0 (cs ++ [c1]) = ab_w K ad 0 cs ++ [(q, ab_e K (ab_nx ad cs.length q) c1)] := by
  rw [ab_w_app, ab_w_ext K (ab_nx_old ad hn q) cs 0 (by omega) hf]
  show _ ++ [(ab_nx ad cs.length q (0 + cs.length), _)] = _
  rw [Nat.zero_add, ab_nx_new]
set_option maxHeartbeats 4000000 in
theorem ab_nw_ok (hx : p.tables.exec = Jvm.exec) (hb : c.code = cc) (hown : s.vm.findClass own = some m.cls) (hts : ∀ w ∈ Ts, w.before args s = true) (hG : ab_cg cl Ts G) {cq : Nat} (hcq : ∃ T N ty, G cq = some (Cq, T, N, ty)) (hK : va_K D cl (ab_ty K Cq) s) (hAO : va_AO Cq s) {ins : Instr} {k : ab_K} {c1 : ab_C}
    (hdg : decode cc pc = .ok (ins, len)) (hln : ab_ln ins = len ∨ ab_ln ins = 0) (hW : ∀ w ∈ ab_wd Sl M G own ins k, w.before args s = true) (h : ab_nw G cq ins k st = some (st2, c1)) (hf : cs.all (ab_fc cs.length) = true) (hnn : cs.length < 1000000)
    (hA : ∀ q, H0.size ≤ q → A q) (hce : cells + 1 ≤ R.cells) (hsl : slots + ab_sc c1 ≤ R.slots) (hP : va_P D cl (ab_w K ad 0 cs) H) (hD : va_D A (ab_w K ad 0 cs)) (hS : va_S A H0 H locs)
    (kk : ∀ (q : Nat) (H1 : Heap), va_P D cl (ab_w K (ab_nx ad cs.length q) 0 (cs ++ [c1])) H1 → va_D A (ab_w K (ab_nx ad cs.length q) 0 (cs ++ [c1])) → va_S A H0 H1 locs → W p l e R s m args below meth c H1 locs (cells + 1) (slots + ab_sc c1) Q (F0 m (pc + len) ls (.ref q :: st2.map (ab_v ad)))) : W p l e R s m args below meth c H locs cells slots Q (F0 m pc ls (st.map (ab_v ad))) := by
  unfold ab_nw at h
  split at h
  · rename_i i
    split at h
    · split at h
      · rename_i C T N ty hg
        cases h
        obtain ⟨h1, h2, h3, h4, h5⟩ := hG _ _ _ _ _ hg
        obtain rfl := ab_len (n := 2) rfl hln
        have hw : ∀ w ∈ ([.classLink own i C, .instantiable C N, .initialized C] : List Jvm.Cond), w.before args s = true := fun w q => hW w (by unfold ab_wd; rw [hg]; exact q)
        have hN : ab_sc (.inr (.inr (.inr (k.2.1, ab_df ty N)))) = N := by
          show (ab_df ty N).length = N
          unfold ab_df
          simp
        rw [hN] at hsl kk
        exact va_new hx hb hts h2 ty h3 hown (hw _ (by simp)) (hw _ (by simp)) (hw _ (by simp)) hK hP hD hS hA h1 (ab_dfv ty N) hce hsl hdg (fun q H1 p1 d1 s1 => by
          have he : ab_e K (ab_nx ad cs.length q) (.inr (.inr (.inr (k.2.1, ab_df ty N)))) = .inr (k.2.1, ab_df ty N) := by
            show Sum.inr (k.2.1, (ab_df ty N).map _) = _
            rw [ab_dfl]
          refine kk q H1 ?_ ?_ s1
          · rw [ab_w_new K ad cs _ q hnn hf, he]; exact p1
          · rw [ab_w_new K ad cs _ q hnn hf, he]; exact d1)
      · cases h
    · cases h
  · rename_i ty
    split at h
    · rename_i n r
      split at h
      · cases h
      · rename_i hn
        obtain ⟨hn0, hn1⟩ := not_or.mp hn
        obtain rfl := ab_len (n := 1) rfl hln
        have hw := hW (.arrayClass (newarray.typeOf ty)) (by unfold ab_wd; exact List.mem_cons_self)
        split at h
        · cases h
          have hN : ab_sc (.inl (List.replicate n.toNatClampNeg 0)) = n.toNatClampNeg := by show (List.replicate n.toNatClampNeg (0 : Int32)).length = _; simp
          rw [hN] at hsl kk
          exact va_newa (atype := .int) hx hb hw rfl hK hP hD hS hA (a0 := (n.toNatClampNeg, .inl (fun _ => 0))) (fun _ => rfl) hn0 rfl (by show n.toNatClampNeg * 4 ≤ _; omega) hce hsl hdg (fun q cA H1 k1 p1 d1 s1 => by
            have hc : cA = K.1 := Option.some.inj ((ab_K_last k1).symm.trans (hK.2 0 (K.1, .int) rfl).2)
            subst hc
            have he : ab_e K (ab_nx ad cs.length q) (.inl (List.replicate n.toNatClampNeg 0)) = .inl (K.1, n.toNatClampNeg, .inl (fun _ => 0)) := by
              show Sum.inl (K.1, (List.replicate n.toNatClampNeg (0 : Int32)).length, _) = _
              rw [List.length_replicate]
              congr 4
              funext j
              simp [List.getD_eq_getElem?_getD, List.getElem?_replicate]
              split <;> rfl
            refine kk q H1 ?_ ?_ s1
            · rw [ab_w_new K ad cs _ q hnn hf, he]; exact p1
            · rw [ab_w_new K ad cs _ q hnn hf, he]; exact d1)
        · cases h
          have hN : ab_sc (.inr (.inl (List.replicate n.toNatClampNeg 0))) = n.toNatClampNeg := by show (List.replicate n.toNatClampNeg (0 : Int64)).length = _; simp
          rw [hN] at hsl kk
          exact va_newa (atype := .long) hx hb hw rfl hK hP hD hS hA (a0 := (n.toNatClampNeg, .inr (.inl (fun _ => 0)))) (fun _ => rfl) hn0 rfl (by show n.toNatClampNeg * 8 ≤ _; omega) hce hsl hdg (fun q cA H1 k1 p1 d1 s1 => by
            have hc : cA = K.2.1 := Option.some.inj ((ab_K_last k1).symm.trans (hK.2 1 (K.2.1, .long) rfl).2)
            subst hc
            have he : ab_e K (ab_nx ad cs.length q) (.inr (.inl (List.replicate n.toNatClampNeg 0))) = .inl (K.2.1, n.toNatClampNeg, .inr (.inl (fun _ => 0))) := by
              show Sum.inl (K.2.1, (List.replicate n.toNatClampNeg (0 : Int64)).length, _) = _
              rw [List.length_replicate]
              congr 5
              funext j
              simp [List.getD_eq_getElem?_getD, List.getElem?_replicate]
              split <;> rfl
            refine kk q H1 ?_ ?_ s1
            · rw [ab_w_new K ad cs _ q hnn hf, he]; exact p1
            · rw [ab_w_new K ad cs _ q hnn hf, he]; exact d1)
        · cases h
    · cases h
  · rename_i i
    split at h
    · rename_i n r
      split at h
      · cases h
      · rename_i hn
        obtain ⟨hn0, hn⟩ := not_or.mp hn
        obtain ⟨hn1, hn⟩ := not_or.mp hn
        obtain ⟨hn2, hn3⟩ := not_or.mp hn
        have hn3 := Classical.not_not.mp hn3
        cases h
        obtain rfl := ab_len (n := 2) rfl hln
        obtain ⟨T, N, ty, hg⟩ := hcq
        have hw : (Jvm.Cond.classLink own i Cq).before args s = true := hW _ (by unfold ab_wd; rw [hn3, hg]; exact List.mem_cons_self)
        have hN : ab_sc (.inr (.inr (.inl (List.replicate n.toNatClampNeg none)))) = n.toNatClampNeg := by show (List.replicate n.toNatClampNeg (none : Option Nat)).length = _; simp
        rw [hN] at hsl kk
        exact va_newq hx hb hown hw hAO hK hP hD hS hA hn0 rfl (by omega) hce hsl hdg (fun q cA H1 k1 p1 d1 s1 => by
            obtain ⟨_, _, _, _, _, g1⟩ := ab_K_last k1
            obtain ⟨_, _, _, _, _, g2⟩ := (hK.2 2 (K.2.2, .object Cq) rfl).2
            have hc : cA = K.2.2 := Option.some.inj (g1.symm.trans g2)
            subst hc
            have he : ab_e K (ab_nx ad cs.length q) (.inr (.inr (.inl (List.replicate n.toNatClampNeg none)))) = .inl (K.2.2, n.toNatClampNeg, .inr (.inr (.inr (.inr (fun _ => none))))) := by
              show Sum.inl (K.2.2, (List.replicate n.toNatClampNeg (none : Option Nat)).length, _) = _
              rw [List.length_replicate]
              congr 7
              funext j
              simp [List.getD_eq_getElem?_getD, List.getElem?_replicate]
              split <;> rfl
            refine kk q H1 ?_ ?_ s1
            · rw [ab_w_new K ad cs _ q hnn hf, he]; exact p1
            · rw [ab_w_new K ad cs _ q hnn hf, he]; exact d1)
    · cases h
  · cases h
end ABS4
end
section
/-! calls, a frame, a method -/
theorem ab_hp_sz {G : Nat → Option ab_T} {Z : ab_Z} {o : Nat} {isI : Bool} {ins : Instr} {k : ab_K} {st st2 : List Value} {cs cs2 : List ab_C} (h : ab_hp G Z o isI ins k st cs = some (st2, cs2)) : cs2.length = cs.length ∧ ab_sz cs2 = ab_sz cs := by
  unfold ab_hp at h
  split at h
  · split at h
    · unfold ab_gf at h
      split at h
      · split at h
        · split at h
          · split at h
            · cases h; exact ⟨rfl, rfl⟩
            · cases h
          · cases h
        · cases h
      · cases h
    · cases h
  · split at h
    · unfold ab_pf at h
      split at h
      · split at h
        · rename_i he hg
          split at h
          · cases h
            exact ⟨List.length_set, ab_sz_set he (by show (List.set _ _ _).length = _; rw [List.length_set]; rfl)⟩
          · cases h
        · cases h
      · cases h
    · cases h
  · unfold ab_ia at h
    split at h
    · split at h
      · split at h
        · cases h
        · cases h; exact ⟨rfl, rfl⟩
      · split at h
        · split at h
          · cases h
          · cases h; exact ⟨rfl, rfl⟩
        · cases h
      · cases h
    · cases h
  · unfold ab_la at h
    split at h
    · split at h
      · split at h
        · cases h
        · cases h; exact ⟨rfl, rfl⟩
      · cases h
    · cases h
  · unfold ab_aa at h
    split at h
    · split at h
      · split at h
        · cases h
        · cases h; exact ⟨rfl, rfl⟩
      · cases h
    · cases h
  · unfold ab_is at h
    split at h
    · split at h
      · rename_i he
        split at h
        · cases h
        · cases h
          exact ⟨List.length_set, ab_sz_set he (by show (List.set _ _ _).length = _; rw [List.length_set]; rfl)⟩
      · cases h
    · cases h
  · unfold ab_lst at h
    split at h
    · split at h
      · rename_i he
        split at h
        · cases h
        · cases h
          exact ⟨List.length_set, ab_sz_set he (by show (List.set _ _ _).length = _; rw [List.length_set]; rfl)⟩
      · cases h
    · cases h
  · unfold ab_as at h
    split at h
    · split at h
      · rename_i he _
        split at h
        · split at h
          · cases h
          · cases h
            exact ⟨List.length_set, ab_sz_set he (by show (List.set _ _ _).length = _; rw [List.length_set]; rfl)⟩
        · cases h
      · cases h
    · cases h
  · unfold ab_al at h
    split at h
    · split at h
      · cases h; exact ⟨rfl, rfl⟩
      · cases h; exact ⟨rfl, rfl⟩
      · cases h; exact ⟨rfl, rfl⟩
      · split at h
        · split at h
          · cases h
          · cases h; exact ⟨rfl, rfl⟩
        · cases h
      · cases h
    · cases h
  · split at h
    · unfold ab_mx at h
      split at h
      · split at h
        · cases h; exact ⟨rfl, rfl⟩
        · cases h
      · cases h
    · split at h
      · unfold ab_mn at h
        split at h
        · split at h
          · cases h; exact ⟨rfl, rfl⟩
          · cases h
        · cases h
      · split at h
        · unfold ab_cy at h
          split at h
          · split at h
            · cases h
            · split at h
              · rename_i he
                split at h
                · rename_i hq
                  cases h
                  exact ⟨List.length_set, ab_sz_set he (ab_cpl hq.1 hq.2)⟩
                · cases h
              · rename_i he
                split at h
                · rename_i hq
                  cases h
                  exact ⟨List.length_set, ab_sz_set he (ab_cpl hq.1 hq.2)⟩
                · cases h
              · cases h
          · cases h
        · cases h
  · split at h
    · unfold ab_oi at h
      split at h
      · split at h
        · cases h; exact ⟨rfl, rfl⟩
        · cases h
      · cases h
    · cases h
  · split at h
    · cases h; exact ⟨rfl, rfl⟩
    · cases h
  · split at h
    · cases h; exact ⟨rfl, rfl⟩
    · cases h
  · split at h
    · cases h; exact ⟨rfl, rfl⟩
    · cases h
  · split at h
    · cases h; exact ⟨rfl, rfl⟩
    · cases h
  · cases h
def ab_nr (v : Option Value) : Prop := ∀ ad : Nat → Nat, v.toList.map (ab_v ad) = v.toList
theorem ab_re_nr {ret : Option FieldType} {ins : Instr} {st : List Value} {v : Option Value} (h : ab_re ret ins st = some v) : ab_nr v := by
  unfold ab_re at h
  split at h
  · split at h
    · split at h
      · cases h; exact fun _ => rfl
      · split at h
        · cases h; exact fun _ => rfl
        · cases h
      · cases h
    · cases h
  · split at h
    · split at h
      · cases h; exact fun _ => rfl
      · cases h
    · cases h
  · split at h
    · split at h
      · cases h; exact fun _ => rfl
      · cases h
    · cases h
  · cases h
theorem ab_fr_le {M : List ab_D} {G : Nat → Option ab_T} {Z : ab_Z} {call : Nat → List Value → List ab_C → Option (Option Value × List ab_C)} {md : ab_D} (hc : ∀ (y : Nat) (As : List Value) (cs : List ab_C) (v : Option Value) (cs2 : List ab_C), call y As cs = some (v, cs2) → cs.length ≤ cs2.length ∧ ab_sz cs ≤ ab_sz cs2 ∧ ab_nr v) :
    ∀ (f : Nat) (pc : Nat) (L : ab_L) (st : List Value) (cs : List ab_C) (v : Option Value) (cs2 : List ab_C), ab_fr M G Z call md f (pc, L, st, cs) = some (v, cs2) → cs.length ≤ cs2.length ∧ ab_sz cs ≤ ab_sz cs2 ∧ ab_nr v := by
  intro f
  induction f with
  | zero => intro pc L st cs v cs2 h; cases h
  | succ f ih =>
    intro pc L st cs v cs2 h
    unfold ab_fr at h
    split at h
    · cases h
    · split at h
      · cases h
      · split at h
        · exact ih _ _ _ _ _ _ h
        · split at h
          · exact ih _ _ _ _ _ _ h
          · split at h
            · rename_i hp
              have h1 := ih _ _ _ _ _ _ h
              have h2 := ab_hp_sz hp
              rw [h2.1, h2.2] at h1
              exact h1
            · split at h
              · rename_i hv
                cases h
                exact ⟨Nat.le_refl _, Nat.le_refl _, ab_re_nr hv⟩
              · split at h
                · split at h
                  · have h1 := ih _ _ _ _ _ _ h
                    rw [List.length_append, ab_sz_app] at h1
                    exact ⟨by omega, by omega, h1.2.2⟩
                  · cases h
                · split at h
                  · cases h
                  · split at h
                    · cases h
                    · split at h
                      · split at h
                        · cases h
                        · rename_i hcl
                          split at h
                          · have h1 := ih _ _ _ _ _ _ h
                            have h2 := hc _ _ _ _ _ hcl
                            exact ⟨Nat.le_trans h2.1 h1.1, Nat.le_trans h2.2.1 h1.2.1, h1.2.2⟩
                          · cases h
                      · cases h
theorem ab_run_le {M : List ab_D} {G : Nat → Option ab_T} {Z : ab_Z} : ∀ (d f y : Nat) (As : List Value) (cs : List ab_C) (v : Option Value) (cs2 : List ab_C), ab_run M G Z d f y As cs = some (v, cs2) → cs.length ≤ cs2.length ∧ ab_sz cs ≤ ab_sz cs2 ∧ ab_nr v := by
  intro d
  induction d with
  | zero => intro f y As cs v cs2 h; cases h
  | succ d ih =>
    intro f y As cs v cs2 h
    unfold ab_run at h
    split at h
    · cases h
    · split at h
      · exact ab_fr_le (fun y As cs v cs2 hc => ih f y As cs v cs2 hc) f _ _ _ _ _ _ h
      · cases h
def ab_WK (D : va_G) (cl : List vw_C) (K : ab_Q) (Cq : ab_X) (U : State) : Prop := va_K D cl (ab_ty K Cq.1) U ∧ va_AO Cq.1 U ∧ ∀ q ∈ Cq.2.1, va_Nw (.methodLinkNest q.1 q.2.1 q.2.2.1 q.2.2.2) U
theorem ab_WK.moved {D : va_G} {cl : List vw_C} {K : ab_Q} {Cq : ab_X} {u U : State} (hW : u.WarmedH U.vm) (h : ab_WK D cl K Cq u) : ab_WK D cl K Cq U := ⟨va_K.moved hW.alike h.1, va_AO.moved hW.alike h.2.1, fun q hq => va_Nw.warmM hW (h.2.2 q hq)⟩
theorem ab_WK.same {D : va_G} {cl : List vw_C} {K : ab_Q} {Cq : ab_X} {u U : State} (e : u.vm = U.vm) (h : ab_WK D cl K Cq u) : ab_WK D cl K Cq U := ⟨va_K.moved (by rw [e]; exact Vm.Alike.refl _) h.1, va_AO.moved (by rw [e]; exact Vm.Alike.refl _) h.2.1, fun q hq => va_Nw.same rfl e (h.2.2 q hq)⟩
def ab_Pc (D : va_G) (cl : List vw_C) (K : ab_Q) (Cq : ab_X) (ad : Nat → Nat) (cs : List ab_C) (sz : Nat) (As : List Value) : Array Value → State → Prop := va_Pc (As.map (ab_v ad)) (fun U => U.heap.size = sz ∧ va_P D cl (ab_w K ad 0 cs) U.heap ∧ ab_WK D cl K Cq U ∧ va_D (fun _ => True) (ab_w K ad 0 cs) ∧ ab_TT Cq.2.2.1 Cq.2.2.2 ad (va_A (ab_w K ad 0 cs) sz) U U.heap)
def ab_Bd (D : va_G) (cl : List vw_C) (K : ab_Q) (Cq : ab_X) (ad : Nat → Nat) (cs : List ab_C) (A : Nat → Prop) (cs2 : List ab_C) (t : State) : Prop := ∃ u : Nat → Nat, (cs2.length = cs.length → u = ad) ∧ (∀ k, k < cs.length ∨ 1000000 ≤ k → u k = ad k) ∧ va_P D cl (ab_w K u 0 cs2) t.heap ∧ ab_WK D cl K Cq t ∧ va_D A (ab_w K u 0 cs2)
def ab_Qc (D : va_G) (cl : List vw_C) (K : ab_Q) (Cq : ab_X) (ad : Nat → Nat) (cs : List ab_C) (sz : Nat) (v : Option Value) (cs2 : List ab_C) : Array Value → State → Outcome → State → Prop := fun _ st o t => (o = .returned v ∧ ab_Bd D cl K Cq ad cs (va_A (ab_w K ad 0 cs) sz) cs2 t) ∧ va_F (va_A (ab_w K ad 0 cs) sz) st t
/-- a method's contract, out of what the machine of worlds says of it -/
def ab_Mt (l : Launch) (D : va_G) (cl : List vw_C) (K : ab_Q) (Cq : ab_X) (Ws : List Jvm.Cond) (md : ab_D) (d : Nat) (As : List Value) (cs : List ab_C) (v : Option Value) (cs2 : List ab_C) : Prop := ∀ (ad : Nat → Nat) (sz : Nat),
  Met l md.1 (.code md.1 md.2.1 md.2.2.1 md.2.2.2.1 :: Ws) { frames := d, cells := cs2.length - cs.length, slots := ab_sz cs2 - ab_sz cs, locals := 100 * d } (ab_Pc D cl K Cq ad cs sz As) (ab_Qc D cl K Cq ad cs sz v cs2) (cs2.length - cs.length) (ab_sz cs2 - ab_sz cs) (va_A (ab_w K ad 0 cs) sz)
theorem ab_blind {D : va_G} {cl : List vw_C} {K : ab_Q} {Cq : ab_X} {ad : Nat → Nat} {cs : List ab_C} {sz : Nat} {As : List Value} : FrameBlind (ab_Pc D cl K Cq ad cs sz As) := fun a U g mk q => by
  obtain ⟨q0, q1, qP, qK, qD, qT⟩ := q
  exact ⟨q0, q1, qP, ab_WK.same (u := U) (U := U.calling g mk a) rfl qK, qD, qT.go (U := U.calling g mk a) (fun _ _ _ => rfl) (Vm.Alike.refl U.vm) (fun _ h => h)⟩
section ABS5
variable {p : Program} {l : Launch} {e : Env} {R : Room} {s : State} {m : MethodId} {args : Array Value} {below : List Frame} {meth : Method} {c : Code} {H : Heap} {locs : List Loc} {cells slots : Nat} {Q : State → Prop}
variable {cc : ByteArray} {pc : Nat} {ls : Array Slot} {D : va_G} {cl : List vw_C} {A : Nat → Prop} {H0 : Heap} {K : ab_Q} {Cq : ab_X} {own : String} {ad : Nat → Nat} {cs cs2 : List ab_C} {st st2 : List Value} {Ts Ws : List Jvm.Cond} {G : Nat → Option ab_T} {M : List ab_D} {len : Nat}
theorem ab_call {rest st0 : List Value} {mc ms : Nat} {v : Option Value} {a : Array Value} {free : Addr → Prop} (hr : va_Run p l e R s m args below meth c H locs cells slots mc ms (F0 m pc ls st0) rest (ab_Qc D cl K Cq ad cs H.size v cs2 a) free)
    (hS : va_S A H0 H locs) (hA : ∀ q, va_A (ab_w K ad 0 cs) H.size q → A q) (hf : ∀ q, free q → A q)
    (kk : ∀ (u : Nat → Nat) (H1 : Heap) (locs1 : List Loc), (cs2.length = cs.length → u = ad) → (∀ k, k < cs.length ∨ 1000000 ≤ k → u k = ad k) → va_P D cl (ab_w K u 0 cs2) H1 → va_D A (ab_w K u 0 cs2) → va_S A H0 H1 locs1 → W p l e R s m args below meth c H1 locs1 (cells + mc) (slots + ms) Q (F0 m (pc + 3) ls (v.toList ++ rest))) : W p l e R s m args below meth c H locs cells slots Q (F0 m pc ls st0) := by
  intro T hT X
  obtain ⟨v', st₀, t, T', L, h0, X', hL, e1, e2, ⟨⟨hv, u, b1, b2, b3, b4, b5⟩, hz, hk⟩, st⟩ := hr T hT X
  cases hv
  rw [h0] at hz hk
  obtain ⟨t2, a1, c1⟩ := kk u T'.heap (locs ++ L) b1 b2 (by rw [e1]; exact b3) (b5.weaken (fun _ _ _ h => hA _ h))
    ⟨Nat.le_trans hS.1 (by rw [e1]; exact hz), fun q h1 h2 => by rw [e1, hk q (Nat.lt_of_lt_of_le h1 hS.1) (fun z => h2 (hA q z))]; exact hS.2.1 q h1 h2, fun q hq => by
      rcases List.mem_append.mp hq with h | h
      · exact hS.2.2 q h
      · exact hf _ (hL q h)⟩ T' rfl X'
  exact ⟨t2, st t2 a1, c1⟩
/-- what is asked of the tables for a method -/
def ab_ok (Nl : ab_N) (Sl : List (String × String)) (M : List ab_D) (G : Nat → Option ab_T) (Ws : List Jvm.Cond) (md : ab_D) : Prop :=
  plainName md.1.cls = true ∧ (md.1.cls ≠ "java/lang/invoke/MethodHandle" ∧ md.1.cls ≠ "java/lang/invoke/VarHandle" ∧ (parseMethodDescriptor md.1.desc).map (fun d => d.parameters.length) = some md.2.2.2.2.2.1) ∧ Cond.code md.1 md.2.1 md.2.2.1 md.2.2.2.1 ∈ Ws ∧ md.2.2.1 ≤ 81 ∧ (md.2.2.2.2.2.2.1 = true → md.1.name = "<init>") ∧
  (∀ C T N ty, G md.2.2.2.2.1 = some (C, T, N, ty) → C = md.1.cls) ∧ ∀ (pc : Nat) (ins : Instr) (len : Nat) (k : ab_K) (ps : List Nat), ab_at md pc = some (ins, len, k, ps) → decode md.2.1 pc = .ok (ins, len) ∧ (∀ w ∈ ab_wd Sl M G md.1.cls ins k, w ∈ Ws) ∧ ab_nd Nl Sl M md.1.cls ins k
end ABS5
end
section
/-! a frame's walk, out of the machine of worlds -/
theorem ab_ag_args (ad : Nat → Nat) : ∀ (As : List Value) (i k : Nat) (v : Value), (ab_ag As)[k]? = some (some v) → (i + k, ab_v ad v) ∈ lv_args i (As.map (ab_v ad))
  | [], i, k, v, h => by simp [ab_ag] at h
  | a :: r, i, k, v, h => by
    unfold ab_ag at h
    rw [List.map_cons]
    unfold lv_args
    rw [ab_v_cat]
    split at h
    · rename_i hc
      rw [if_pos hc]
      match k, h with
      | 0, h => 
        cases h
        exact List.mem_cons_self
      | 1, h => cases h
      | k + 2, h => 
        rw [show i + (k + 2) = (i + 2) + k by omega]
        exact List.mem_cons_of_mem _ (ab_ag_args ad r (i + 2) k v h)
    · rename_i hc
      rw [if_neg hc]
      match k, h with
      | 0, h => 
        cases h
        exact List.mem_cons_self
      | k + 1, h => 
        rw [show i + (k + 1) = (i + 1) + k by omega]
        exact List.mem_cons_of_mem _ (ab_ag_args ad r (i + 1) k v h)
theorem ab_ag_len (ad : Nat → Nat) : ∀ (As : List Value), (lg_sl (As.map (ab_v ad))).length = (ab_ag As).length
  | [] => rfl
  | a :: r => by
    have ih := ab_ag_len ad r
    unfold lg_sl at ih ⊢
    unfold ab_ag
    rw [List.map_cons, List.flatMap_cons, ab_v_cat, List.length_append, ih]
    split
    · show 2 + _ = _ + 1 + 1
      omega
    · show 1 + _ = _ + 1
      omega
theorem ab_h_entry (ad : Nat → Nat) (As : List Value) {nL : Nat} (h : (ab_ag As).length ≤ nL) : ab_h ad ((lg_sl (As.map (ab_v ad)) ++ List.replicate (nL - (lg_sl (As.map (ab_v ad))).length) Slot.unset).toArray) nL (ab_ag As ++ List.replicate (nL - (ab_ag As).length) none) := by
  have hl := lv_entry (As.map (ab_v ad)) (n := nL) (by rw [ab_ag_len]; exact h)
  refine ⟨by simp; omega, hl.1, hl.2.1, fun k v hk => ?_⟩
  by_cases hkl : k < (ab_ag As).length
  · rw [List.getElem?_append_left hkl] at hk
    have hm := ab_ag_args ad As 0 k v hk
    rw [Nat.zero_add] at hm
    exact hl.2.2 _ hm
  · rw [List.getElem?_append_right (by omega), List.getElem?_replicate] at hk
    split at hk <;> cases hk
theorem ab_args_rev {st : List Value} {n : Nat} : st = (st.take n).reverse.reverse ++ st.drop n := by rw [List.reverse_reverse, List.take_append_drop]
section ABS6
variable {p : Program} {l : Launch} {e : Env} {s : State} {m : MethodId} {args : Array Value} {below : List Frame} {meth : Method} {c : Code} {D : va_G} {cl : List vw_C} {K : ab_Q} {Cq : ab_X} {Ts Ws : List Jvm.Cond} {G : Nat → Option ab_T} {M : List ab_D} {Z : ab_Z} {d : Nat} {md : ab_D}
set_option maxHeartbeats 8000000 in
theorem ab_ca_ok {Q : State → Prop} {R : Room} {own : String} {cc : ByteArray} {nL pc cells slots : Nat} {H : Heap} {locs : List Loc} {ls : Array Slot} {A : Nat → Prop} {ad : Nat → Nat} {cs cs2 : List ab_C} {st r As : List Value} {v : Option Value} {ins : Instr} {len y : Nat} {k : ab_K} {my : ab_D} {L : ab_L}
    (hx : p.tables.exec = Jvm.exec) (hb : c.code = cc) (hml : c.maxLocals = nL) (hown : s.vm.findClass own = some m.cls) (hts : ∀ w ∈ Ts, w.before args s = true) (hWs : GoodIn Ts Ws) (hG : ab_cg cl Ts G) (hWK : ab_WK D cl K Cq s) (hTT : ab_TT Cq.2.2.1 Cq.2.2.2 ad A s s.heap)
    (hdg : decode cc pc = .ok (ins, len)) (hln : ab_ln ins = len ∨ ab_ln ins = 0) (hwd : ∀ w ∈ ab_wd Cq.2.2.2 M G own ins k, w ∈ Ws) (hnd : ab_nd Cq.2.1 Cq.2.2.2 M own ins k) (hca : ab_ca ins k st = some (y, As, r)) (hmy : M[y]? = some my) (hok : ab_ok Cq.2.1 Cq.2.2.2 M G Ws my)
    (hsm : ab_sm r ≤ 8) (hnp : As.length = my.2.2.2.2.2.1 + cond (k.1 == 4) 0 1) (hrv : k.1 = 3 → ab_rv G my.2.2.2.2.1 As cs = true) (hsp : k.1 = 5 ∨ k.1 = 15 → my.2.2.2.2.2.2.1 = true ∧ my.2.2.2.1 = none ∧ ab_rf As = true)
    (hMt : ab_Mt l D cl K Cq Ws my d As cs v cs2) (hfr : d + 1 ≤ R.frames) (hlo : 100 * (d + 1) ≤ R.locals) (hP : va_P D cl (ab_w K ad 0 cs) H) (hD : va_D A (ab_w K ad 0 cs)) (hS : va_S A s.heap H locs) (hA : ∀ q, s.heap.size ≤ q → A q) (hL : ab_h ad ls nL L)
    (hce : cells + (cs2.length - cs.length) ≤ R.cells) (hsl : slots + (ab_sz cs2 - ab_sz cs) ≤ R.slots)
    (kk : ∀ (u : Nat → Nat) (H1 : Heap) (locs1 : List Loc), (cs2.length = cs.length → u = ad) → (∀ k, k < cs.length ∨ 1000000 ≤ k → u k = ad k) → va_P D cl (ab_w K u 0 cs2) H1 → va_D A (ab_w K u 0 cs2) → va_S A s.heap H1 locs1 → W p l e R s m args below meth c H1 locs1 (cells + (cs2.length - cs.length)) (slots + (ab_sz cs2 - ab_sz cs)) Q (F0 m (pc + 3) ls (v.toList ++ r.map (ab_v ad)))) : W p l e R s m args below meth c H locs cells slots Q (F0 m pc ls (st.map (ab_v ad))) := by
  obtain ⟨o1, o2, o3, o4, o5, o6, o7⟩ := hok
  have hA1 : ∀ q, va_A (ab_w K ad 0 cs) H.size q → A q := fun q h => by
    rcases h with ⟨k, e, h⟩ | h
    · exact hD.2 k _ h
    · exact hA q (Nat.le_trans hS.1 h)
  have hpre : ∀ U : State, U.heap = H → s.WarmedH U.vm → ab_Pc D cl K Cq ad cs H.size As (As.map (ab_v ad)).toArray U := fun U hU hW => ⟨rfl, by rw [hU], by rw [hU]; exact hP, hWK.moved hW, hD.weaken (fun _ _ _ _ => trivial), by rw [hU]; exact hTT.go hS.2.1 hW.alike hA1⟩
  have hgood : ∀ (ws : List Jvm.Cond), (∀ w ∈ ws, w ∈ Ws) → GoodIn Ts ws := fun ws h w hw => hWs w (h w hw)
  have hcons : ∀ w ∈ (Cond.code my.1 my.2.1 my.2.2.1 my.2.2.2.1 :: Ws), w ∈ Ws := fun w h => by
    rcases List.mem_cons.mp h with rfl | h
    · exact o3
    · exact h
  have hroom : d + 1 ≤ R.frames ∧ 8 + (my.2.2.1 + 11) + 100 * d ≤ R.locals := ⟨hfr, by omega⟩
  have hrm : 2 * (F0 m pc ls (st.map (ab_v ad))).monitorRoom + ((r.map (ab_v ad)).map fun v => v.category).sum ≤ 8 := by
    rw [ab_sm_map]
    show 2 * 0 + _ ≤ 8
    omega
  have hM := hMt ad H.size
  unfold ab_ca at hca
  split at hca
  · rename_i i
    split at hca
    · rename_i hk
      cases hca
      obtain rfl := ab_len (n := 2) rfl hln
      have hw : ∀ w ∈ ([.methodLink own i my.1, .instanceMethod my.1, .selects my.1.cls my.1 my.1, .initialized my.1.cls] : List Jvm.Cond), w ∈ Ws := fun w q => hwd w (by unfold ab_wd; dsimp only; rw [hmy]; exact q)
      have hr3 := hrv hk.1
      have hst : st = (st.take (k.2.2 + 1)).reverse.reverse ++ st.drop (k.2.2 + 1) := ab_args_rev
      generalize hAs : (st.take (k.2.2 + 1)).reverse = As at *
      generalize hrr : st.drop (k.2.2 + 1) = r at *
      subst hst
      unfold ab_rv at hr3
      split at hr3
      · rename_i a As'
        split at hr3
        · rename_i ci fs he
          rw [Bool.and_eq_true] at hr3
          have hci := of_decide_eq_true hr3.1
          subst hci
          obtain ⟨⟨C, T, N, ty⟩, hg⟩ := Option.isSome_iff_exists.mp hr3.2
          have hC := o6 C T N ty hg
          subst hC
          obtain ⟨h1, -⟩ := hG _ _ _ _ _ hg
          have hn : (As'.map (ab_v ad)).length = my.2.2.2.2.2.1 := by
            rw [List.length_map]
            rw [hk.1] at hnp
            simpa using hnp
          refine ab_call (va_runV (As := As'.map (ab_v ad)) (rest := r.map (ab_v ad)) (b := ad a) ⟨hx, hb, hml, hown, hts⟩ hM (cwV my.2.2.2.2.2.1 hts (hgood _ (fun w h => ?_)) rfl rfl rfl ⟨rfl, o2⟩ hroom) ⟨ab_blind, va_recv hWK.1 hP h1 (ab_w_at he), hpre⟩ rfl hn hL.2.1 ?_ hrm hdg ⟨hce, hsl⟩) hS hA1 (fun q h => hA1 q h) kk
          · rcases List.mem_append.mp h with h | h
            · exact hw w h
            · exact hcons w h
          · show List.map (ab_v ad) _ = _
            simp [ab_v]
        · cases hr3
      · cases hr3
    · cases hca
  · rename_i i
    split at hca
    · rename_i hk
      cases hca
      obtain rfl := ab_len (n := 2) rfl hln
      have hw : ∀ w ∈ ([.methodLink own i my.1, .static my.1, .initialized my.1.cls] : List Jvm.Cond), w ∈ Ws := fun w q => hwd w (by unfold ab_wd; dsimp only; rw [if_neg (by omega), if_neg (by omega), if_neg (by omega), hmy]; exact q)
      have hst : st = (st.take k.2.2).reverse.reverse ++ st.drop k.2.2 := ab_args_rev
      generalize hAs : (st.take k.2.2).reverse = As at *
      generalize hrr : st.drop k.2.2 = r at *
      subst hst
      have hn : (As.map (ab_v ad)).length = my.2.2.2.2.2.1 := by
        rw [List.length_map]
        rw [hk.1] at hnp
        simpa using hnp
      refine ab_call (va_runS (As := As.map (ab_v ad)) (rest := r.map (ab_v ad)) ⟨hx, hb, hml, hown, hts⟩ hM (va_cwS my.2.2.2.2.2.1 hts (hgood _ (fun w h => ?_)) rfl rfl rfl o2 hroom) ⟨ab_blind, hpre⟩ rfl hn hL.2.1 ?_ hrm hdg ⟨hce, hsl⟩) hS hA1 (fun q h => hA1 q h) kk
      · rcases List.mem_append.mp h with h | h
        · exact hw w h
        · exact hcons w h
      · show List.map (ab_v ad) _ = _
        simp
    · cases hca
  · rename_i i
    split at hca
    · rename_i hk
      cases hca
      obtain rfl := ab_len (n := 2) rfl hln
      obtain ⟨h51, h52, h53⟩ := hsp hk.1
      have hst : st = (st.take (k.2.2 + 1)).reverse.reverse ++ st.drop (k.2.2 + 1) := ab_args_rev
      generalize hAs : (st.take (k.2.2 + 1)).reverse = As at *
      generalize hrr : st.drop (k.2.2 + 1) = r at *
      subst hst
      unfold ab_rf at h53
      split at h53
      · rename_i a As'
        have hn : (As'.map (ab_v ad)).length = my.2.2.2.2.2.1 := by
          rw [List.length_map]
          rcases hk.1 with hk1 | hk1 <;> rw [hk1] at hnp <;> simpa using hnp
        rw [h52] at hM hcons
        have hst : List.map (ab_v ad) ((Value.ref a :: As').reverse ++ r) = (As'.map (ab_v ad)).reverse ++ Value.ref (ad a) :: r.map (ab_v ad) := by simp [ab_v]
        rcases hk.1 with hk1 | hk1
        · have hw : ∀ w ∈ ([.methodLink own i my.1, .instanceMethod my.1, .initialized my.1.cls] : List Jvm.Cond), w.before args s = true := fun w q => hts w (hWs w (hwd w (by unfold ab_wd; dsimp only; rw [if_neg (by omega), if_neg (by omega), hmy]; exact q))).1
          exact ab_call (va_runI (As := As'.map (ab_v ad)) (rest := r.map (ab_v ad)) (b := ad a) ⟨hx, hb, hml, hown, hts⟩ hM (cwI my.2.2.2.2.2.1 hts (hgood _ hcons) rfl rfl rfl (hw _ (by simp)) (hw _ (by simp)) (hw _ (by simp)) (o5 h51) ⟨o2.1, o2.2.1, o2.2.2⟩ hroom) ⟨ab_blind, hpre⟩ rfl hn hL.2.1 hst hrm hdg ⟨hce, hsl⟩) hS hA1 (fun q h => hA1 q h) kk
        · have hw : ∀ w ∈ ([.instanceMethod my.1, .initialized my.1.cls] : List Jvm.Cond), w.before args s = true := fun w q => hts w (hWs w (hwd w (by unfold ab_wd; dsimp only; rw [if_neg (by omega), if_pos hk1, hmy]; exact q))).1
          obtain ⟨host, hh⟩ := hnd.1 i my rfl hk1 hmy
          exact ab_call (va_runIN (As := As'.map (ab_v ad)) (rest := r.map (ab_v ad)) (b := ad a) ⟨hx, hb, hml, hown, hts⟩ hM ⟨va_cnB my.2.2.2.2.2.1 hts (hgood _ hcons) rfl rfl rfl (hWK.2.2 _ hh) (hw _ (by simp)) ⟨o2.1, o2.2.1, o2.2.2⟩ hroom, o5 h51, hw _ (by simp)⟩ ⟨ab_blind, hpre⟩ rfl hn hL.2.1 hst hrm hdg ⟨hce, hsl⟩) hS hA1 (fun q h => hA1 q h) kk
      · cases h53
    · cases hca
  · cases hca
/-- what stands at a method's end -/
def ab_En (p : Program) (l : Launch) (e : Env) (R : Room) (s : State) (m : MethodId) (args : Array Value) (below : List Frame) (meth : Method) (c : Code) (Q : State → Prop) (D : va_G) (cl : List vw_C) (K : ab_Q) (md : ab_D) (ad0 : Nat → Nat) (cs0 : List ab_C) (A : Nat → Prop) (v : Option Value) (cs2 : List ab_C) : Prop :=
  ∀ (pc : Nat) (ins : Instr) (len : Nat) (st : List Value) (ad : Nat → Nat) (H : Heap) (locs : List Loc) (ls : Array Slot), decode md.2.1 pc = .ok (ins, len) → (ab_ln ins = len ∨ ab_ln ins = 0) → ab_re md.2.2.2.1 ins st = some v → (cs2.length = cs0.length → ad = ad0) → (∀ k, k < cs0.length ∨ 1000000 ≤ k → ad k = ad0 k) →
    va_P D cl (ab_w K ad 0 cs2) H → va_D A (ab_w K ad 0 cs2) → va_S A s.heap H locs → W p l e R s m args below meth c H locs (cs2.length - cs0.length) (ab_sz cs2 - ab_sz cs0) Q (F0 m pc ls (st.map (ab_v ad)))
set_option maxHeartbeats 8000000 in
theorem ab_fr_W {call : Nat → List Value → List ab_C → Option (Option Value × List ab_C)} {cs0 cs2 : List ab_C} {ad0 : Nat → Nat} {v : Option Value} {R : Room} {Q : State → Prop} {A : Nat → Prop}
    (hx : p.tables.exec = Jvm.exec) (hb : c.code = md.2.1) (hml : c.maxLocals = md.2.2.1) (hown : s.vm.findClass md.1.cls = some m.cls) (hI : md.2.2.2.2.2.2.1 = true → meth.name = "<init>") (hts : ∀ w ∈ Ts, w.before args s = true) (hWs : GoodIn Ts Ws) (hG : ab_cg cl Ts G) (hcq : ∃ T N ty, G Z.1 = some (Cq.1, T, N, ty)) (hZ : Z.2 = Cq.2.2.1) (hWK : ab_WK D cl K Cq s)
    (howG : ∀ C T N ty, G md.2.2.2.2.1 = some (C, T, N, ty) → C = md.1.cls) (hmd : ∀ (pc : Nat) (ins : Instr) (len : Nat) (k : ab_K) (ps : List Nat), ab_at md pc = some (ins, len, k, ps) → decode md.2.1 pc = .ok (ins, len) ∧ (∀ w ∈ ab_wd Cq.2.2.2 M G md.1.cls ins k, w ∈ Ts ∧ w ∈ Ws) ∧ ab_nd Cq.2.1 Cq.2.2.2 M md.1.cls ins k)
    (hokA : ∀ (y : Nat) (my : ab_D), M[y]? = some my → ab_ok Cq.2.1 Cq.2.2.2 M G Ws my)
    (hle : ∀ (y : Nat) (As : List Value) (cs : List ab_C) (v : Option Value) (cs2 : List ab_C), call y As cs = some (v, cs2) → cs.length ≤ cs2.length ∧ ab_sz cs ≤ ab_sz cs2 ∧ ab_nr v)
    (IH : ∀ (y : Nat) (As : List Value) (cs : List ab_C) (v : Option Value) (cs2 : List ab_C) (my : ab_D), M[y]? = some my → call y As cs = some (v, cs2) → ab_Mt l D cl K Cq Ws my d As cs v cs2)
    (hA : ∀ q, s.heap.size ≤ q → A q) (hTT : ab_TT Cq.2.2.1 Cq.2.2.2 ad0 A s s.heap) (hRc : cs2.length - cs0.length ≤ R.cells) (hRs : ab_sz cs2 - ab_sz cs0 ≤ R.slots) (hRf : d + 1 ≤ R.frames) (hRl : 100 * (d + 1) ≤ R.locals)
    (hend : ab_En p l e R s m args below meth c Q D cl K md ad0 cs0 A v cs2) :
    ∀ (f pc : Nat) (L : ab_L) (st : List Value) (cs : List ab_C), ab_fr M G Z call md f (pc, L, st, cs) = some (v, cs2) → cs0.length ≤ cs.length → ab_sz cs0 ≤ ab_sz cs → ∀ (ad : Nat → Nat) (H : Heap) (locs : List Loc) (ls : Array Slot), (cs.length = cs0.length → ad = ad0) → (∀ k, k < cs0.length ∨ 1000000 ≤ k → ad k = ad0 k) →
      va_P D cl (ab_w K ad 0 cs) H → va_D A (ab_w K ad 0 cs) → va_S A s.heap H locs → ab_h ad ls md.2.2.1 L →
      W p l e R s m args below meth c H locs (cs.length - cs0.length) (ab_sz cs - ab_sz cs0) Q (F0 m pc ls (st.map (ab_v ad))) := by
  have hR : 1 ≤ R.frames ∧ 100 ≤ R.locals := ⟨by omega, by omega⟩
  intro f
  induction f with
  | zero => intro pc L st cs h; cases h
  | succ f ih =>
    intro pc L st cs h hcs hsz ad H locs ls ha1 ha2 hP hD hS hL
    have hend2 := ab_fr_le hle (f + 1) pc L st cs v cs2 h
    have hmls : c.maxLocals = ls.size := hml.trans hL.2.1.symm
    have hTa : ab_TT Cq.2.2.1 Cq.2.2.2 ad A s s.heap := hTT.ad (fun k hk => ha2 k (Or.inr hk))
    unfold ab_fr at h
    split at h
    · cases h
    · rename_i ins len k ps hat
      obtain ⟨hdg, hwd, hnd⟩ := hmd pc ins len k ps hat
      have hW : ∀ w ∈ ab_wd Cq.2.2.2 M G md.1.cls ins k, w.before args s = true := fun w q => hts w (hwd w q).1
      split at h
      · cases h
      · rename_i hln
        have hln := Classical.not_not.mp hln
        split at h
        · rename_i hp
          exact ab_pu_ok hx hb hdg hln hp ad (ih _ _ _ _ h hcs hsz ad H locs ls ha1 ha2 hP hD hS hL)
        · split at h
          · rename_i hp
            exact ab_lo_ok hx hb hdg hln hp ad hL (fun ls' hl => ih _ _ _ _ h hcs hsz ad H locs ls' ha1 ha2 hP hD hS hl)
          · split at h
            · rename_i st2 cs3 hp
              have hz := ab_hp_sz hp
              refine ab_hp_ok hx hb hmls hown hts hG hcq (by rw [hZ]; exact hTa) howG hI hWK.1 hR (by omega) (by omega) hdg hln hW hnd.2 hp hP hD hS (fun H1 locs1 p1 d1 s1 => ?_)
              have h1 := ih _ _ _ _ h (by rw [hz.1]; exact hcs) (by rw [hz.2]; exact hsz) ad H1 locs1 ls (by rw [hz.1]; exact ha1) ha2 p1 d1 s1 hL
              rw [hz.1, hz.2] at h1
              exact h1
            · split at h
              · rename_i v1 hv
                cases h
                exact hend pc ins len st ad H locs ls hdg hln hv ha1 ha2 hP hD hS
              · split at h
                · rename_i st2 c1 hp
                  split at h
                  · rename_i hf
                    obtain ⟨hnn, hf⟩ := hf
                    rw [Bool.and_eq_true, Bool.and_eq_true] at hf
                    obtain ⟨hf1, hf2, hf3⟩ := hf
                    have h0 := ab_fr_le hle f _ _ _ _ v cs2 h
                    rw [List.length_append, ab_sz_app] at h0
                    have hl1 : [c1].length = 1 := rfl
                    refine ab_nw_ok hx hb hown hts hG hcq hWK.1 hWK.2.1 hdg hln hW hp hf3 hnn hA (by omega) (by omega) hP hD hS (fun q H1 p1 d1 s1 => ?_)
                    have h1 := ih _ _ _ _ h (by rw [List.length_append]; omega) (by rw [ab_sz_app]; omega) (ab_nx ad cs.length q) H1 locs ls (fun z => by rw [List.length_append] at z; omega) (fun j hj => (ab_nx_old ad hnn q j (by omega)).trans (ha2 j hj)) p1 d1 s1 (ab_h_ext (ab_nx_old ad hnn q) hL hf1)
                    rw [List.length_append, ab_sz_app, hl1, show cs.length + 1 - cs0.length = cs.length - cs0.length + 1 by omega, show ab_sz cs + ab_sc c1 - ab_sz cs0 = ab_sz cs - ab_sz cs0 + ab_sc c1 by omega, List.map_cons, ab_st_ext (ab_nx_old ad hnn q) hf2] at h1
                    rw [show ab_v (ab_nx ad cs.length q) (.ref cs.length) = .ref q by show Value.ref (ab_nx ad cs.length q cs.length) = _; rw [ab_nx_new]] at h1
                    exact h1
                  · cases h
                · split at h
                  · cases h
                  · rename_i y As r hca
                    split at h
                    · cases h
                    · rename_i my hmy
                      split at h
                      · rename_i hc
                        obtain ⟨c1, c2, c3, c4⟩ := hc
                        split at h
                        · cases h
                        · rename_i v1 cs3 hcl
                          split at h
                          · rename_i hf
                            have h0 := ab_fr_le hle f _ _ _ _ v cs2 h
                            have h3 := hle _ _ _ _ _ hcl
                            refine ab_ca_ok hx hb hml hown hts hWs hG hWK hTa hdg hln (fun w q => (hwd w q).2) hnd hca hmy (hokA y my hmy) c1 c2 c3 c4 (IH y As cs v1 cs3 my hmy hcl) hRf hRl hP hD hS hA hL (by omega) (by omega) (fun u H1 locs1 u1 u2 p1 d1 s1 => ?_)
                            have hLr : ab_h u ls md.2.2.1 L ∧ r.map (ab_v u) = r.map (ab_v ad) := by
                              rcases hf with hf | hf
                              · rw [u1 hf]
                                exact ⟨hL, rfl⟩
                              · rw [Bool.and_eq_true] at hf
                                exact ⟨ab_h_ext u2 hL hf.1, ab_st_ext u2 hf.2⟩
                            have h1 := ih _ _ _ _ h (by omega) (by omega) u H1 locs1 ls (fun z => (u1 (by omega)).trans (ha1 (by omega))) (fun j hj => (u2 j (by omega)).trans (ha2 j hj)) p1 d1 s1 hLr.1
                            rw [List.map_append, h3.2.2 u, hLr.2, show cs3.length - cs0.length = cs.length - cs0.length + (cs3.length - cs.length) by omega, show ab_sz cs3 - ab_sz cs0 = ab_sz cs - ab_sz cs0 + (ab_sz cs3 - ab_sz cs) by omega] at h1
                            exact h1
                          · cases h
                      · cases h
theorem ab_end {cs0 cs2 : List ab_C} {ad0 : Nat → Nat} {v : Option Value} {d : Nat} (hx : p.tables.exec = Jvm.exec) (hb : c.code = md.2.1) (hr : meth.sig.returnType = md.2.2.2.1) (hlocks : meth.locks = false) (hWK : ab_WK D cl K Cq s) :
    ab_En p l e { frames := d + 1, cells := cs2.length - cs0.length, slots := ab_sz cs2 - ab_sz cs0, locals := 100 * (d + 1) } s m args below meth c (MQ below (ab_Qc D cl K Cq ad0 cs0 s.heap.size v cs2) args s (cs2.length - cs0.length) (ab_sz cs2 - ab_sz cs0) (va_A (ab_w K ad0 0 cs0) s.heap.size)) D cl K md ad0 cs0 (va_A (ab_w K ad0 0 cs0) s.heap.size) v cs2 := by
  intro pc ins len st ad H locs ls hdg hln hv ha1 ha2 hP hD hS
  have hq : ∀ t : State, t.heap = H → s.WarmedH t.vm → ab_Qc D cl K Cq ad0 cs0 s.heap.size v cs2 args s (.returned v) t := fun t ht hWm => ⟨⟨rfl, ad, ha1, ha2, by rw [ht]; exact hP, hWK.moved hWm, hD⟩, hS.F ht⟩
  unfold ab_re at hv
  split at hv
  · split at hv
    · obtain rfl := ab_len (n := 0) rfl hln
      split at hv
      · rename_i hret
        cases hv
        exact W.iret hx hb (hr.trans hret) hq hS.2.2 hdg
      · rename_i hret
        split at hv
        · rename_i hz
          cases hv
          exact W.zret hx hb (hr.trans hret) (by rcases hz with rfl | rfl <;> decide) hq hS.2.2 hdg
        · cases hv
      · cases hv
    · cases hv
  · split at hv
    · obtain rfl := ab_len (n := 0) rfl hln
      split at hv
      · rename_i hret
        cases hv
        exact W.lret hx hb (hr.trans hret) hq hS.2.2 hdg
      · cases hv
    · cases hv
  · split at hv
    · obtain rfl := ab_len (n := 0) rfl hln
      split at hv
      · rename_i hret
        cases hv
        exact W.vret hx hb (hr.trans hret) hq hS.2.2 hdg
      · cases hv
    · cases hv
  · cases hv
end ABS6
set_option maxHeartbeats 4000000 in
/-- the machine of worlds gives contracts -/
theorem ab_run_ok {l : Launch} {D : va_G} {cl : List vw_C} {K : ab_Q} {Cq : ab_X} {Ws : List Jvm.Cond} {G : Nat → Option ab_T} {M : List ab_D} {Z : ab_Z} (hWs : GoodIn Ws Ws) (hG : ab_cg cl Ws G) (hcq : ∃ T N ty, G Z.1 = some (Cq.1, T, N, ty)) (hZ : Z.2 = Cq.2.2.1) (hokA : ∀ (y : Nat) (my : ab_D), M[y]? = some my → ab_ok Cq.2.1 Cq.2.2.2 M G Ws my) :
    ∀ (d f y : Nat) (As : List Value) (cs : List ab_C) (v : Option Value) (cs2 : List ab_C) (my : ab_D), M[y]? = some my → ab_run M G Z d f y As cs = some (v, cs2) → ab_Mt l D cl K Cq Ws my d As cs v cs2 := by
  intro d
  induction d with
  | zero => intro f y As cs v cs2 my hmy h; cases h
  | succ d ih =>
    intro f y As cs v cs2 md hmd h ad sz
    unfold ab_run at h
    rw [hmd] at h
    dsimp only at h
    split at h
    · rename_i hlen
      have hok := hokA y md hmd
      refine Met.ofW (cc := md.2.1) (maxL := md.2.2.1) (ret := md.2.2.2.1) hok.1 rfl ?_
      intro p e s m args below meth c s₁ B hml hv
      obtain ⟨rfl, hsz, hP, hWK, hD0, hTT⟩ := hv
      have hts := atoms_spec (ws := .code md.1 md.2.1 md.2.2.1 md.2.2.2.1 :: Ws) B.pre
      have hown : s.vm.findClass md.1.cls = some m.cls := findClass_of_methodNamed B.named
      have hI : md.2.2.2.2.2.2.1 = true → meth.name = "<init>" := fun q => (name_of_methodNamed B.named B.method).1.trans (hok.2.2.2.2.1 q)
      subst hsz
      have hD := hD0.self (sz := s.heap.size)
      rw [lg_entry_eq]
      have h1 := ab_fr_W (cs0 := cs) (ad0 := ad) (below := below) (l := l) (e := e) (R := { frames := d + 1, cells := cs2.length - cs.length, slots := ab_sz cs2 - ab_sz cs, locals := 100 * (d + 1) }) B.exec B.bytes hml hown hI (fun w hw => hts w (List.mem_cons_of_mem _ hw)) hWs hG hcq hZ hWK hok.2.2.2.2.2.1 (fun pc ins len k ps hat => ⟨(hok.2.2.2.2.2.2 pc ins len k ps hat).1, fun w q => ⟨(hok.2.2.2.2.2.2 pc ins len k ps hat).2.1 w q, (hok.2.2.2.2.2.2 pc ins len k ps hat).2.1 w q⟩, (hok.2.2.2.2.2.2 pc ins len k ps hat).2.2⟩) hokA (fun y As cs v cs2 hc => ab_run_le d f y As cs v cs2 hc) (fun y As cs v cs2 my hmy hc => ih f y As cs v cs2 my hmy hc) (fun q h => Or.inr h) hTT (Nat.le_refl _) (Nat.le_refl _) (Nat.le_refl _) (Nat.le_refl _) (ab_end B.exec B.bytes B.returns B.notSynchronized hWK) f 0 _ [] cs h (Nat.le_refl _) (Nat.le_refl _) ad s.heap [] _ (fun _ => rfl) (fun _ _ => rfl) hP hD va_S.rf (ab_h_entry ad As hlen)
      rw [Nat.sub_self, Nat.sub_self] at h1
      exact h1
    · cases h
end
section
-- ===== PART A: goes FIRST, ahead of the names: the tables' words, and 'selects' of the private methods out of them =====
/-- a private method of a class that the tables say can be made, by its rows of tables_1 -/
def lw_okq (q : MethodName × Nat) : Prop := (q.1.cls ≠ "java/lang/invoke/MethodHandle" ∧ q.1.cls ≠ "java/lang/invoke/VarHandle") ∧ Cond.instantiable q.1.cls q.2 ∈ tables_1 ∧ Cond.privateMethod q.1 ∈ tables_1 ∧ Cond.instanceMethod q.1 ∈ tables_1
theorem lw_p0 : lw_okq (⟨"FountainGivesChange", "refuse", "(I)I"⟩, 10) := ⟨⟨by decide +kernel, by decide +kernel⟩, List.mem_of_getElem? (i := 17) (by decide +kernel), List.mem_of_getElem? (i := 221) (by decide +kernel), List.mem_of_getElem? (i := 222) (by decide +kernel)⟩
theorem lw_p1 : lw_okq (⟨"FountainGivesChange", "whyNoRow", "(I)I"⟩, 10) := ⟨⟨by decide +kernel, by decide +kernel⟩, List.mem_of_getElem? (i := 17) (by decide +kernel), List.mem_of_getElem? (i := 239) (by decide +kernel), List.mem_of_getElem? (i := 240) (by decide +kernel)⟩
theorem lw_p2 : lw_okq (⟨"FountainGivesChange$Shelf", "lowestBits", "(J)J"⟩, 3) := ⟨⟨by decide +kernel, by decide +kernel⟩, List.mem_of_getElem? (i := 164) (by decide +kernel), List.mem_of_getElem? (i := 260) (by decide +kernel), List.mem_of_getElem? (i := 261) (by decide +kernel)⟩
theorem lw_p3 : lw_okq (⟨"FountainGivesChange", "tellOne", "([IIII)I"⟩, 10) := ⟨⟨by decide +kernel, by decide +kernel⟩, List.mem_of_getElem? (i := 17) (by decide +kernel), List.mem_of_getElem? (i := 379) (by decide +kernel), List.mem_of_getElem? (i := 380) (by decide +kernel)⟩
theorem lw_p4 : lw_okq (⟨"FountainGivesChange$Reader", "readItem", "()V"⟩, 6) := ⟨⟨by decide +kernel, by decide +kernel⟩, List.mem_of_getElem? (i := 113) (by decide +kernel), List.mem_of_getElem? (i := 420) (by decide +kernel), List.mem_of_getElem? (i := 421) (by decide +kernel)⟩
theorem lw_p5 : lw_okq (⟨"FountainGivesChange$Reader", "readWord", "()I"⟩, 6) := ⟨⟨by decide +kernel, by decide +kernel⟩, List.mem_of_getElem? (i := 113) (by decide +kernel), List.mem_of_getElem? (i := 424) (by decide +kernel), List.mem_of_getElem? (i := 425) (by decide +kernel)⟩
theorem lw_p6 : lw_okq (⟨"FountainGivesChange$Reader", "lettersAsIn", "(Ljava/lang/String;)I"⟩, 6) := ⟨⟨by decide +kernel, by decide +kernel⟩, List.mem_of_getElem? (i := 113) (by decide +kernel), List.mem_of_getElem? (i := 438) (by decide +kernel), List.mem_of_getElem? (i := 439) (by decide +kernel)⟩
theorem lw_p7 : lw_okq (⟨"FountainGivesChange$Reader", "stands", "(IC)Z"⟩, 6) := ⟨⟨by decide +kernel, by decide +kernel⟩, List.mem_of_getElem? (i := 113) (by decide +kernel), List.mem_of_getElem? (i := 490) (by decide +kernel), List.mem_of_getElem? (i := 491) (by decide +kernel)⟩
theorem lw_p8 : lw_okq (⟨"FountainGivesChange$Reader", "readPiece", "(I)V"⟩, 6) := ⟨⟨by decide +kernel, by decide +kernel⟩, List.mem_of_getElem? (i := 113) (by decide +kernel), List.mem_of_getElem? (i := 495) (by decide +kernel), List.mem_of_getElem? (i := 496) (by decide +kernel)⟩
theorem lw_p9 : lw_okq (⟨"FountainGivesChange$Reader", "readNumber", "(II)I"⟩, 6) := ⟨⟨by decide +kernel, by decide +kernel⟩, List.mem_of_getElem? (i := 113) (by decide +kernel), List.mem_of_getElem? (i := 500) (by decide +kernel), List.mem_of_getElem? (i := 501) (by decide +kernel)⟩
theorem lw_p10 : lw_okq (⟨"FountainGivesChange$Reader", "readSign", "(C)V"⟩, 6) := ⟨⟨by decide +kernel, by decide +kernel⟩, List.mem_of_getElem? (i := 113) (by decide +kernel), List.mem_of_getElem? (i := 504) (by decide +kernel), List.mem_of_getElem? (i := 505) (by decide +kernel)⟩
theorem lw_p11 : lw_okq (⟨"FountainGivesChange$Reader", "isDigit", "(I)Z"⟩, 6) := ⟨⟨by decide +kernel, by decide +kernel⟩, List.mem_of_getElem? (i := 113) (by decide +kernel), List.mem_of_getElem? (i := 508) (by decide +kernel), List.mem_of_getElem? (i := 509) (by decide +kernel)⟩
theorem lw_p12 : lw_okq (⟨"FountainGivesChange$Reader", "readDigit", "()I"⟩, 6) := ⟨⟨by decide +kernel, by decide +kernel⟩, List.mem_of_getElem? (i := 113) (by decide +kernel), List.mem_of_getElem? (i := 512) (by decide +kernel), List.mem_of_getElem? (i := 513) (by decide +kernel)⟩
theorem lw_p13 : lw_okq (⟨"FountainGivesChange$Reader", "readPerson", "(I)V"⟩, 6) := ⟨⟨by decide +kernel, by decide +kernel⟩, List.mem_of_getElem? (i := 113) (by decide +kernel), List.mem_of_getElem? (i := 517) (by decide +kernel), List.mem_of_getElem? (i := 518) (by decide +kernel)⟩
theorem lw_p14 : lw_okq (⟨"FountainGivesChange$Reader", "readCost", "()V"⟩, 6) := ⟨⟨by decide +kernel, by decide +kernel⟩, List.mem_of_getElem? (i := 113) (by decide +kernel), List.mem_of_getElem? (i := 523) (by decide +kernel), List.mem_of_getElem? (i := 524) (by decide +kernel)⟩
theorem lw_p15 : lw_okq (⟨"FountainGivesChange$Reader", "readHas", "()V"⟩, 6) := ⟨⟨by decide +kernel, by decide +kernel⟩, List.mem_of_getElem? (i := 113) (by decide +kernel), List.mem_of_getElem? (i := 527) (by decide +kernel), List.mem_of_getElem? (i := 528) (by decide +kernel)⟩
def lw_privs_1 : List (MethodName × Nat) := [(⟨"FountainGivesChange", "refuse", "(I)I"⟩, 10), (⟨"FountainGivesChange", "whyNoRow", "(I)I"⟩, 10), (⟨"FountainGivesChange$Shelf", "lowestBits", "(J)J"⟩, 3), (⟨"FountainGivesChange", "tellOne", "([IIII)I"⟩, 10), (⟨"FountainGivesChange$Reader", "readItem", "()V"⟩, 6), (⟨"FountainGivesChange$Reader", "readWord", "()I"⟩, 6), (⟨"FountainGivesChange$Reader", "lettersAsIn", "(Ljava/lang/String;)I"⟩, 6), (⟨"FountainGivesChange$Reader", "stands", "(IC)Z"⟩, 6), (⟨"FountainGivesChange$Reader", "readPiece", "(I)V"⟩, 6), (⟨"FountainGivesChange$Reader", "readNumber", "(II)I"⟩, 6), (⟨"FountainGivesChange$Reader", "readSign", "(C)V"⟩, 6), (⟨"FountainGivesChange$Reader", "isDigit", "(I)Z"⟩, 6), (⟨"FountainGivesChange$Reader", "readDigit", "()I"⟩, 6), (⟨"FountainGivesChange$Reader", "readPerson", "(I)V"⟩, 6), (⟨"FountainGivesChange$Reader", "readCost", "()V"⟩, 6), (⟨"FountainGivesChange$Reader", "readHas", "()V"⟩, 6)]
theorem lw_r1 : ∀ q ∈ lw_privs_1, lw_okq q := List.forall_mem_cons.mpr ⟨lw_p0, List.forall_mem_cons.mpr ⟨lw_p1, List.forall_mem_cons.mpr ⟨lw_p2, List.forall_mem_cons.mpr ⟨lw_p3, List.forall_mem_cons.mpr ⟨lw_p4, List.forall_mem_cons.mpr ⟨lw_p5, List.forall_mem_cons.mpr ⟨lw_p6, List.forall_mem_cons.mpr ⟨lw_p7, List.forall_mem_cons.mpr ⟨lw_p8, List.forall_mem_cons.mpr ⟨lw_p9, List.forall_mem_cons.mpr ⟨lw_p10, List.forall_mem_cons.mpr ⟨lw_p11, List.forall_mem_cons.mpr ⟨lw_p12, List.forall_mem_cons.mpr ⟨lw_p13, List.forall_mem_cons.mpr ⟨lw_p14, List.forall_mem_cons.mpr ⟨lw_p15, fun _ h => absurd h List.not_mem_nil⟩⟩⟩⟩⟩⟩⟩⟩⟩⟩⟩⟩⟩⟩⟩⟩
theorem lw_p16 : lw_okq (⟨"FountainGivesChange$Reader", "readBack", "()V"⟩, 6) := ⟨⟨by decide +kernel, by decide +kernel⟩, List.mem_of_getElem? (i := 113) (by decide +kernel), List.mem_of_getElem? (i := 531) (by decide +kernel), List.mem_of_getElem? (i := 532) (by decide +kernel)⟩
theorem lw_p17 : lw_okq (⟨"FountainGivesChange$Square", "greatestUpTo", "(II)I"⟩, 15) := ⟨⟨by decide +kernel, by decide +kernel⟩, List.mem_of_getElem? (i := 25) (by decide +kernel), List.mem_of_getElem? (i := 580) (by decide +kernel), List.mem_of_getElem? (i := 581) (by decide +kernel)⟩
theorem lw_p18 : lw_okq (⟨"FountainGivesChange$Change", "putIn", "(II)V"⟩, 1) := ⟨⟨by decide +kernel, by decide +kernel⟩, List.mem_of_getElem? (i := 103) (by decide +kernel), List.mem_of_getElem? (i := 600) (by decide +kernel), List.mem_of_getElem? (i := 601) (by decide +kernel)⟩
theorem lw_p19 : lw_okq (⟨"FountainGivesChange", "throwBy", "(LFountainGivesChange$Square;II)I"⟩, 10) := ⟨⟨by decide +kernel, by decide +kernel⟩, List.mem_of_getElem? (i := 17) (by decide +kernel), List.mem_of_getElem? (i := 613) (by decide +kernel), List.mem_of_getElem? (i := 614) (by decide +kernel)⟩
theorem lw_p20 : lw_okq (⟨"FountainGivesChange", "whyNoTwos", "(IIIZ)I"⟩, 10) := ⟨⟨by decide +kernel, by decide +kernel⟩, List.mem_of_getElem? (i := 17) (by decide +kernel), List.mem_of_getElem? (i := 661) (by decide +kernel), List.mem_of_getElem? (i := 662) (by decide +kernel)⟩
theorem lw_p21 : lw_okq (⟨"FountainGivesChange", "areAllThere", "(LFountainGivesChange$Shelf;I)Z"⟩, 10) := ⟨⟨by decide +kernel, by decide +kernel⟩, List.mem_of_getElem? (i := 17) (by decide +kernel), List.mem_of_getElem? (i := 677) (by decide +kernel), List.mem_of_getElem? (i := 678) (by decide +kernel)⟩
theorem lw_p22 : lw_okq (⟨"FountainGivesChange", "isCost", "(LFountainGivesChange$Shelf;III)Z"⟩, 10) := ⟨⟨by decide +kernel, by decide +kernel⟩, List.mem_of_getElem? (i := 17) (by decide +kernel), List.mem_of_getElem? (i := 681) (by decide +kernel), List.mem_of_getElem? (i := 682) (by decide +kernel)⟩
theorem lw_p23 : lw_okq (⟨"FountainGivesChange", "dearest", "()I"⟩, 10) := ⟨⟨by decide +kernel, by decide +kernel⟩, List.mem_of_getElem? (i := 17) (by decide +kernel), List.mem_of_getElem? (i := 690) (by decide +kernel), List.mem_of_getElem? (i := 691) (by decide +kernel)⟩
theorem lw_p24 : lw_okq (⟨"FountainGivesChange", "crowd", "()I"⟩, 10) := ⟨⟨by decide +kernel, by decide +kernel⟩, List.mem_of_getElem? (i := 17) (by decide +kernel), List.mem_of_getElem? (i := 695) (by decide +kernel), List.mem_of_getElem? (i := 696) (by decide +kernel)⟩
theorem lw_p25 : lw_okq (⟨"FountainGivesChange", "draftDay", "(LFountainGivesChange$Shelf;I)I"⟩, 10) := ⟨⟨by decide +kernel, by decide +kernel⟩, List.mem_of_getElem? (i := 17) (by decide +kernel), List.mem_of_getElem? (i := 712) (by decide +kernel), List.mem_of_getElem? (i := 713) (by decide +kernel)⟩
theorem lw_p26 : lw_okq (⟨"FountainGivesChange$Square", "throwIn", "(II)V"⟩, 15) := ⟨⟨by decide +kernel, by decide +kernel⟩, List.mem_of_getElem? (i := 25) (by decide +kernel), List.mem_of_getElem? (i := 753) (by decide +kernel), List.mem_of_getElem? (i := 754) (by decide +kernel)⟩
theorem lw_p27 : lw_okq (⟨"FountainGivesChange$Moves", "begin", "(I)V"⟩, 5) := ⟨⟨by decide +kernel, by decide +kernel⟩, List.mem_of_getElem? (i := 142) (by decide +kernel), List.mem_of_getElem? (i := 788) (by decide +kernel), List.mem_of_getElem? (i := 789) (by decide +kernel)⟩
theorem lw_p28 : lw_okq (⟨"FountainGivesChangeModel", "isShelf", "(I)Z"⟩, 49) := ⟨⟨by decide +kernel, by decide +kernel⟩, List.mem_of_getElem? (i := 812) (by decide +kernel), List.mem_of_getElem? (i := 970) (by decide +kernel), List.mem_of_getElem? (i := 971) (by decide +kernel)⟩
theorem lw_p29 : lw_okq (⟨"FountainGivesChangeModel", "no", "(I)I"⟩, 49) := ⟨⟨by decide +kernel, by decide +kernel⟩, List.mem_of_getElem? (i := 812) (by decide +kernel), List.mem_of_getElem? (i := 974) (by decide +kernel), List.mem_of_getElem? (i := 975) (by decide +kernel)⟩
theorem lw_p30 : lw_okq (⟨"FountainGivesChangeModel", "isPiece", "(I)Z"⟩, 49) := ⟨⟨by decide +kernel, by decide +kernel⟩, List.mem_of_getElem? (i := 812) (by decide +kernel), List.mem_of_getElem? (i := 994) (by decide +kernel), List.mem_of_getElem? (i := 995) (by decide +kernel)⟩
theorem lw_p31 : lw_okq (⟨"FountainGivesChangeModel", "harms", "(I)I"⟩, 49) := ⟨⟨by decide +kernel, by decide +kernel⟩, List.mem_of_getElem? (i := 812) (by decide +kernel), List.mem_of_getElem? (i := 1006) (by decide +kernel), List.mem_of_getElem? (i := 1007) (by decide +kernel)⟩
def lw_privs_2 : List (MethodName × Nat) := [(⟨"FountainGivesChange$Reader", "readBack", "()V"⟩, 6), (⟨"FountainGivesChange$Square", "greatestUpTo", "(II)I"⟩, 15), (⟨"FountainGivesChange$Change", "putIn", "(II)V"⟩, 1), (⟨"FountainGivesChange", "throwBy", "(LFountainGivesChange$Square;II)I"⟩, 10), (⟨"FountainGivesChange", "whyNoTwos", "(IIIZ)I"⟩, 10), (⟨"FountainGivesChange", "areAllThere", "(LFountainGivesChange$Shelf;I)Z"⟩, 10), (⟨"FountainGivesChange", "isCost", "(LFountainGivesChange$Shelf;III)Z"⟩, 10), (⟨"FountainGivesChange", "dearest", "()I"⟩, 10), (⟨"FountainGivesChange", "crowd", "()I"⟩, 10), (⟨"FountainGivesChange", "draftDay", "(LFountainGivesChange$Shelf;I)I"⟩, 10), (⟨"FountainGivesChange$Square", "throwIn", "(II)V"⟩, 15), (⟨"FountainGivesChange$Moves", "begin", "(I)V"⟩, 5), (⟨"FountainGivesChangeModel", "isShelf", "(I)Z"⟩, 49), (⟨"FountainGivesChangeModel", "no", "(I)I"⟩, 49), (⟨"FountainGivesChangeModel", "isPiece", "(I)Z"⟩, 49), (⟨"FountainGivesChangeModel", "harms", "(I)I"⟩, 49)]
theorem lw_r2 : ∀ q ∈ lw_privs_2, lw_okq q := List.forall_mem_cons.mpr ⟨lw_p16, List.forall_mem_cons.mpr ⟨lw_p17, List.forall_mem_cons.mpr ⟨lw_p18, List.forall_mem_cons.mpr ⟨lw_p19, List.forall_mem_cons.mpr ⟨lw_p20, List.forall_mem_cons.mpr ⟨lw_p21, List.forall_mem_cons.mpr ⟨lw_p22, List.forall_mem_cons.mpr ⟨lw_p23, List.forall_mem_cons.mpr ⟨lw_p24, List.forall_mem_cons.mpr ⟨lw_p25, List.forall_mem_cons.mpr ⟨lw_p26, List.forall_mem_cons.mpr ⟨lw_p27, List.forall_mem_cons.mpr ⟨lw_p28, List.forall_mem_cons.mpr ⟨lw_p29, List.forall_mem_cons.mpr ⟨lw_p30, List.forall_mem_cons.mpr ⟨lw_p31, fun _ h => absurd h List.not_mem_nil⟩⟩⟩⟩⟩⟩⟩⟩⟩⟩⟩⟩⟩⟩⟩⟩
theorem lw_p32 : lw_okq (⟨"FountainGivesChangeModel", "worth", "(I)I"⟩, 49) := ⟨⟨by decide +kernel, by decide +kernel⟩, List.mem_of_getElem? (i := 812) (by decide +kernel), List.mem_of_getElem? (i := 1010) (by decide +kernel), List.mem_of_getElem? (i := 1011) (by decide +kernel)⟩
theorem lw_p33 : lw_okq (⟨"FountainGivesChangeModel", "isFrom", "(III)Z"⟩, 49) := ⟨⟨by decide +kernel, by decide +kernel⟩, List.mem_of_getElem? (i := 812) (by decide +kernel), List.mem_of_getElem? (i := 1018) (by decide +kernel), List.mem_of_getElem? (i := 1019) (by decide +kernel)⟩
theorem lw_p34 : lw_okq (⟨"FountainGivesChangeModel", "addsPiece", "(III)I"⟩, 49) := ⟨⟨by decide +kernel, by decide +kernel⟩, List.mem_of_getElem? (i := 812) (by decide +kernel), List.mem_of_getElem? (i := 1022) (by decide +kernel), List.mem_of_getElem? (i := 1023) (by decide +kernel)⟩
theorem lw_p35 : lw_okq (⟨"FountainGivesChangeModel", "addsPerson", "(III)I"⟩, 49) := ⟨⟨by decide +kernel, by decide +kernel⟩, List.mem_of_getElem? (i := 812) (by decide +kernel), List.mem_of_getElem? (i := 1030) (by decide +kernel), List.mem_of_getElem? (i := 1031) (by decide +kernel)⟩
theorem lw_p36 : lw_okq (⟨"FountainGivesChangeModel", "isOne", "(I)Z"⟩, 49) := ⟨⟨by decide +kernel, by decide +kernel⟩, List.mem_of_getElem? (i := 812) (by decide +kernel), List.mem_of_getElem? (i := 1046) (by decide +kernel), List.mem_of_getElem? (i := 1047) (by decide +kernel)⟩
theorem lw_p37 : lw_okq (⟨"FountainGivesChangeModel", "piecesOf", "(I)I"⟩, 49) := ⟨⟨by decide +kernel, by decide +kernel⟩, List.mem_of_getElem? (i := 812) (by decide +kernel), List.mem_of_getElem? (i := 1058) (by decide +kernel), List.mem_of_getElem? (i := 1059) (by decide +kernel)⟩
theorem lw_p38 : lw_okq (⟨"FountainGivesChangeModel", "wanted", "(I)I"⟩, 49) := ⟨⟨by decide +kernel, by decide +kernel⟩, List.mem_of_getElem? (i := 812) (by decide +kernel), List.mem_of_getElem? (i := 1066) (by decide +kernel), List.mem_of_getElem? (i := 1067) (by decide +kernel)⟩
theorem lw_p39 : lw_okq (⟨"FountainGivesChangeModel", "all", "([IZ)V"⟩, 49) := ⟨⟨by decide +kernel, by decide +kernel⟩, List.mem_of_getElem? (i := 812) (by decide +kernel), List.mem_of_getElem? (i := 1070) (by decide +kernel), List.mem_of_getElem? (i := 1071) (by decide +kernel)⟩
theorem lw_p40 : lw_okq (⟨"FountainGivesChangeModel", "carries", "([II[IIZ)I"⟩, 49) := ⟨⟨by decide +kernel, by decide +kernel⟩, List.mem_of_getElem? (i := 812) (by decide +kernel), List.mem_of_getElem? (i := 1074) (by decide +kernel), List.mem_of_getElem? (i := 1075) (by decide +kernel)⟩
theorem lw_p41 : lw_okq (⟨"FountainGivesChangeModel", "item", "()Z"⟩, 49) := ⟨⟨by decide +kernel, by decide +kernel⟩, List.mem_of_getElem? (i := 812) (by decide +kernel), List.mem_of_getElem? (i := 1078) (by decide +kernel), List.mem_of_getElem? (i := 1079) (by decide +kernel)⟩
theorem lw_p42 : lw_okq (⟨"FountainGivesChangeModel", "stands", "(I)Z"⟩, 49) := ⟨⟨by decide +kernel, by decide +kernel⟩, List.mem_of_getElem? (i := 812) (by decide +kernel), List.mem_of_getElem? (i := 1082) (by decide +kernel), List.mem_of_getElem? (i := 1083) (by decide +kernel)⟩
theorem lw_p43 : lw_okq (⟨"FountainGivesChangeModel", "wrong", "(I)Z"⟩, 49) := ⟨⟨by decide +kernel, by decide +kernel⟩, List.mem_of_getElem? (i := 812) (by decide +kernel), List.mem_of_getElem? (i := 1086) (by decide +kernel), List.mem_of_getElem? (i := 1087) (by decide +kernel)⟩
theorem lw_p44 : lw_okq (⟨"FountainGivesChangeModel", "word", "()I"⟩, 49) := ⟨⟨by decide +kernel, by decide +kernel⟩, List.mem_of_getElem? (i := 812) (by decide +kernel), List.mem_of_getElem? (i := 1090) (by decide +kernel), List.mem_of_getElem? (i := 1091) (by decide +kernel)⟩
theorem lw_p45 : lw_okq (⟨"FountainGivesChangeModel", "reads", "()Z"⟩, 49) := ⟨⟨by decide +kernel, by decide +kernel⟩, List.mem_of_getElem? (i := 812) (by decide +kernel), List.mem_of_getElem? (i := 1094) (by decide +kernel), List.mem_of_getElem? (i := 1095) (by decide +kernel)⟩
theorem lw_p46 : lw_okq (⟨"FountainGivesChangeModel", "isDigit", "()Z"⟩, 49) := ⟨⟨by decide +kernel, by decide +kernel⟩, List.mem_of_getElem? (i := 812) (by decide +kernel), List.mem_of_getElem? (i := 1098) (by decide +kernel), List.mem_of_getElem? (i := 1099) (by decide +kernel)⟩
theorem lw_p47 : lw_okq (⟨"FountainGivesChangeModel", "isSo", "(II)Z"⟩, 49) := ⟨⟨by decide +kernel, by decide +kernel⟩, List.mem_of_getElem? (i := 812) (by decide +kernel), List.mem_of_getElem? (i := 1102) (by decide +kernel), List.mem_of_getElem? (i := 1103) (by decide +kernel)⟩
def lw_privs_3 : List (MethodName × Nat) := [(⟨"FountainGivesChangeModel", "worth", "(I)I"⟩, 49), (⟨"FountainGivesChangeModel", "isFrom", "(III)Z"⟩, 49), (⟨"FountainGivesChangeModel", "addsPiece", "(III)I"⟩, 49), (⟨"FountainGivesChangeModel", "addsPerson", "(III)I"⟩, 49), (⟨"FountainGivesChangeModel", "isOne", "(I)Z"⟩, 49), (⟨"FountainGivesChangeModel", "piecesOf", "(I)I"⟩, 49), (⟨"FountainGivesChangeModel", "wanted", "(I)I"⟩, 49), (⟨"FountainGivesChangeModel", "all", "([IZ)V"⟩, 49), (⟨"FountainGivesChangeModel", "carries", "([II[IIZ)I"⟩, 49), (⟨"FountainGivesChangeModel", "item", "()Z"⟩, 49), (⟨"FountainGivesChangeModel", "stands", "(I)Z"⟩, 49), (⟨"FountainGivesChangeModel", "wrong", "(I)Z"⟩, 49), (⟨"FountainGivesChangeModel", "word", "()I"⟩, 49), (⟨"FountainGivesChangeModel", "reads", "()Z"⟩, 49), (⟨"FountainGivesChangeModel", "isDigit", "()Z"⟩, 49), (⟨"FountainGivesChangeModel", "isSo", "(II)Z"⟩, 49)]
theorem lw_r3 : ∀ q ∈ lw_privs_3, lw_okq q := List.forall_mem_cons.mpr ⟨lw_p32, List.forall_mem_cons.mpr ⟨lw_p33, List.forall_mem_cons.mpr ⟨lw_p34, List.forall_mem_cons.mpr ⟨lw_p35, List.forall_mem_cons.mpr ⟨lw_p36, List.forall_mem_cons.mpr ⟨lw_p37, List.forall_mem_cons.mpr ⟨lw_p38, List.forall_mem_cons.mpr ⟨lw_p39, List.forall_mem_cons.mpr ⟨lw_p40, List.forall_mem_cons.mpr ⟨lw_p41, List.forall_mem_cons.mpr ⟨lw_p42, List.forall_mem_cons.mpr ⟨lw_p43, List.forall_mem_cons.mpr ⟨lw_p44, List.forall_mem_cons.mpr ⟨lw_p45, List.forall_mem_cons.mpr ⟨lw_p46, List.forall_mem_cons.mpr ⟨lw_p47, fun _ h => absurd h List.not_mem_nil⟩⟩⟩⟩⟩⟩⟩⟩⟩⟩⟩⟩⟩⟩⟩⟩
theorem lw_p48 : lw_okq (⟨"FountainGivesChangeModel", "noTen", "(I)I"⟩, 49) := ⟨⟨by decide +kernel, by decide +kernel⟩, List.mem_of_getElem? (i := 812) (by decide +kernel), List.mem_of_getElem? (i := 1114) (by decide +kernel), List.mem_of_getElem? (i := 1115) (by decide +kernel)⟩
theorem lw_p49 : lw_okq (⟨"FountainGivesChangeModel", "tellsBest", "(I)V"⟩, 49) := ⟨⟨by decide +kernel, by decide +kernel⟩, List.mem_of_getElem? (i := 812) (by decide +kernel), List.mem_of_getElem? (i := 1118) (by decide +kernel), List.mem_of_getElem? (i := 1119) (by decide +kernel)⟩
theorem lw_p50 : lw_okq (⟨"FountainGivesChangeModel", "worthOf", "(I)I"⟩, 49) := ⟨⟨by decide +kernel, by decide +kernel⟩, List.mem_of_getElem? (i := 812) (by decide +kernel), List.mem_of_getElem? (i := 1122) (by decide +kernel), List.mem_of_getElem? (i := 1123) (by decide +kernel)⟩
theorem lw_p51 : lw_okq (⟨"FountainGivesChangeModel", "many", "(I)I"⟩, 49) := ⟨⟨by decide +kernel, by decide +kernel⟩, List.mem_of_getElem? (i := 812) (by decide +kernel), List.mem_of_getElem? (i := 1126) (by decide +kernel), List.mem_of_getElem? (i := 1127) (by decide +kernel)⟩
theorem lw_p52 : lw_okq (⟨"FountainGivesChangeModel", "harmOf", "(I)I"⟩, 49) := ⟨⟨by decide +kernel, by decide +kernel⟩, List.mem_of_getElem? (i := 812) (by decide +kernel), List.mem_of_getElem? (i := 1130) (by decide +kernel), List.mem_of_getElem? (i := 1131) (by decide +kernel)⟩
theorem lw_p53 : lw_okq (⟨"FountainGivesChangeModel", "greedyFor", "(I)I"⟩, 49) := ⟨⟨by decide +kernel, by decide +kernel⟩, List.mem_of_getElem? (i := 812) (by decide +kernel), List.mem_of_getElem? (i := 1134) (by decide +kernel), List.mem_of_getElem? (i := 1135) (by decide +kernel)⟩
theorem lw_p54 : lw_okq (⟨"FountainGivesChangeModel", "priceFor", "(II)I"⟩, 49) := ⟨⟨by decide +kernel, by decide +kernel⟩, List.mem_of_getElem? (i := 812) (by decide +kernel), List.mem_of_getElem? (i := 1142) (by decide +kernel), List.mem_of_getElem? (i := 1143) (by decide +kernel)⟩
theorem lw_p55 : lw_okq (⟨"FountainGivesChangeModel", "thrown", "(II)I"⟩, 49) := ⟨⟨by decide +kernel, by decide +kernel⟩, List.mem_of_getElem? (i := 812) (by decide +kernel), List.mem_of_getElem? (i := 1150) (by decide +kernel), List.mem_of_getElem? (i := 1151) (by decide +kernel)⟩
theorem lw_p56 : lw_okq (⟨"FountainGivesChangeModel", "changeFor", "(I)I"⟩, 49) := ⟨⟨by decide +kernel, by decide +kernel⟩, List.mem_of_getElem? (i := 812) (by decide +kernel), List.mem_of_getElem? (i := 1154) (by decide +kernel), List.mem_of_getElem? (i := 1155) (by decide +kernel)⟩
theorem lw_p57 : lw_okq (⟨"FountainGivesChangeModel", "tellsThrow", "(I)V"⟩, 49) := ⟨⟨by decide +kernel, by decide +kernel⟩, List.mem_of_getElem? (i := 812) (by decide +kernel), List.mem_of_getElem? (i := 1162) (by decide +kernel), List.mem_of_getElem? (i := 1163) (by decide +kernel)⟩
theorem lw_p58 : lw_okq (⟨"FountainGivesChangeModel", "manyAmounts", "(Z)I"⟩, 49) := ⟨⟨by decide +kernel, by decide +kernel⟩, List.mem_of_getElem? (i := 812) (by decide +kernel), List.mem_of_getElem? (i := 1174) (by decide +kernel), List.mem_of_getElem? (i := 1175) (by decide +kernel)⟩
theorem lw_p59 : lw_okq (⟨"FountainGivesChangeModel", "runs", "(III)V"⟩, 49) := ⟨⟨by decide +kernel, by decide +kernel⟩, List.mem_of_getElem? (i := 812) (by decide +kernel), List.mem_of_getElem? (i := 1182) (by decide +kernel), List.mem_of_getElem? (i := 1183) (by decide +kernel)⟩
theorem lw_p60 : lw_okq (⟨"FountainGivesChangeModel", "throwsIn", "(III)V"⟩, 49) := ⟨⟨by decide +kernel, by decide +kernel⟩, List.mem_of_getElem? (i := 812) (by decide +kernel), List.mem_of_getElem? (i := 1186) (by decide +kernel), List.mem_of_getElem? (i := 1187) (by decide +kernel)⟩
theorem lw_p61 : lw_okq (⟨"FountainGivesChangeModel", "barsOf", "(IIIZ)I"⟩, 49) := ⟨⟨by decide +kernel, by decide +kernel⟩, List.mem_of_getElem? (i := 812) (by decide +kernel), List.mem_of_getElem? (i := 1194) (by decide +kernel), List.mem_of_getElem? (i := 1195) (by decide +kernel)⟩
theorem lw_p62 : lw_okq (⟨"FountainGivesChangeModel", "intAt", "(II)I"⟩, 49) := ⟨⟨by decide +kernel, by decide +kernel⟩, List.mem_of_getElem? (i := 812) (by decide +kernel), List.mem_of_getElem? (i := 1198) (by decide +kernel), List.mem_of_getElem? (i := 1199) (by decide +kernel)⟩
theorem lw_p63 : lw_okq (⟨"FountainGivesChangeModel", "dearest", "()I"⟩, 49) := ⟨⟨by decide +kernel, by decide +kernel⟩, List.mem_of_getElem? (i := 812) (by decide +kernel), List.mem_of_getElem? (i := 1210) (by decide +kernel), List.mem_of_getElem? (i := 1211) (by decide +kernel)⟩
def lw_privs_4 : List (MethodName × Nat) := [(⟨"FountainGivesChangeModel", "noTen", "(I)I"⟩, 49), (⟨"FountainGivesChangeModel", "tellsBest", "(I)V"⟩, 49), (⟨"FountainGivesChangeModel", "worthOf", "(I)I"⟩, 49), (⟨"FountainGivesChangeModel", "many", "(I)I"⟩, 49), (⟨"FountainGivesChangeModel", "harmOf", "(I)I"⟩, 49), (⟨"FountainGivesChangeModel", "greedyFor", "(I)I"⟩, 49), (⟨"FountainGivesChangeModel", "priceFor", "(II)I"⟩, 49), (⟨"FountainGivesChangeModel", "thrown", "(II)I"⟩, 49), (⟨"FountainGivesChangeModel", "changeFor", "(I)I"⟩, 49), (⟨"FountainGivesChangeModel", "tellsThrow", "(I)V"⟩, 49), (⟨"FountainGivesChangeModel", "manyAmounts", "(Z)I"⟩, 49), (⟨"FountainGivesChangeModel", "runs", "(III)V"⟩, 49), (⟨"FountainGivesChangeModel", "throwsIn", "(III)V"⟩, 49), (⟨"FountainGivesChangeModel", "barsOf", "(IIIZ)I"⟩, 49), (⟨"FountainGivesChangeModel", "intAt", "(II)I"⟩, 49), (⟨"FountainGivesChangeModel", "dearest", "()I"⟩, 49)]
theorem lw_r4 : ∀ q ∈ lw_privs_4, lw_okq q := List.forall_mem_cons.mpr ⟨lw_p48, List.forall_mem_cons.mpr ⟨lw_p49, List.forall_mem_cons.mpr ⟨lw_p50, List.forall_mem_cons.mpr ⟨lw_p51, List.forall_mem_cons.mpr ⟨lw_p52, List.forall_mem_cons.mpr ⟨lw_p53, List.forall_mem_cons.mpr ⟨lw_p54, List.forall_mem_cons.mpr ⟨lw_p55, List.forall_mem_cons.mpr ⟨lw_p56, List.forall_mem_cons.mpr ⟨lw_p57, List.forall_mem_cons.mpr ⟨lw_p58, List.forall_mem_cons.mpr ⟨lw_p59, List.forall_mem_cons.mpr ⟨lw_p60, List.forall_mem_cons.mpr ⟨lw_p61, List.forall_mem_cons.mpr ⟨lw_p62, List.forall_mem_cons.mpr ⟨lw_p63, fun _ h => absurd h List.not_mem_nil⟩⟩⟩⟩⟩⟩⟩⟩⟩⟩⟩⟩⟩⟩⟩⟩
theorem lw_p64 : lw_okq (⟨"FountainGivesChangeModel", "wanting", "(I)I"⟩, 49) := ⟨⟨by decide +kernel, by decide +kernel⟩, List.mem_of_getElem? (i := 812) (by decide +kernel), List.mem_of_getElem? (i := 1214) (by decide +kernel), List.mem_of_getElem? (i := 1215) (by decide +kernel)⟩
theorem lw_p65 : lw_okq (⟨"FountainGivesChangeModel", "goes", "(II)I"⟩, 49) := ⟨⟨by decide +kernel, by decide +kernel⟩, List.mem_of_getElem? (i := 812) (by decide +kernel), List.mem_of_getElem? (i := 1226) (by decide +kernel), List.mem_of_getElem? (i := 1227) (by decide +kernel)⟩
theorem lw_p66 : lw_okq (⟨"FountainGivesChangeModel", "day", "()V"⟩, 49) := ⟨⟨by decide +kernel, by decide +kernel⟩, List.mem_of_getElem? (i := 812) (by decide +kernel), List.mem_of_getElem? (i := 1250) (by decide +kernel), List.mem_of_getElem? (i := 1251) (by decide +kernel)⟩
theorem lw_p67 : lw_okq (⟨"FountainGivesChangeModel", "draw", "(I)I"⟩, 49) := ⟨⟨by decide +kernel, by decide +kernel⟩, List.mem_of_getElem? (i := 812) (by decide +kernel), List.mem_of_getElem? (i := 1254) (by decide +kernel), List.mem_of_getElem? (i := 1255) (by decide +kernel)⟩
theorem lw_p68 : lw_okq (⟨"FountainGivesChangeModel", "allGranted", "()I"⟩, 49) := ⟨⟨by decide +kernel, by decide +kernel⟩, List.mem_of_getElem? (i := 812) (by decide +kernel), List.mem_of_getElem? (i := 1259) (by decide +kernel), List.mem_of_getElem? (i := 1260) (by decide +kernel)⟩
theorem lw_p69 : lw_okq (⟨"FountainGivesChangeModel", "falling", "(II)I"⟩, 49) := ⟨⟨by decide +kernel, by decide +kernel⟩, List.mem_of_getElem? (i := 812) (by decide +kernel), List.mem_of_getElem? (i := 1271) (by decide +kernel), List.mem_of_getElem? (i := 1272) (by decide +kernel)⟩
theorem lw_p70 : lw_okq (⟨"FountainGivesChangeModel", "body", "(I)V"⟩, 49) := ⟨⟨by decide +kernel, by decide +kernel⟩, List.mem_of_getElem? (i := 812) (by decide +kernel), List.mem_of_getElem? (i := 1275) (by decide +kernel), List.mem_of_getElem? (i := 1276) (by decide +kernel)⟩
theorem lw_p71 : lw_okq (⟨"FountainGivesChangeModel", "ringing", "(II)I"⟩, 49) := ⟨⟨by decide +kernel, by decide +kernel⟩, List.mem_of_getElem? (i := 812) (by decide +kernel), List.mem_of_getElem? (i := 1279) (by decide +kernel), List.mem_of_getElem? (i := 1280) (by decide +kernel)⟩
theorem lw_p72 : lw_okq (⟨"FountainGivesChangeModel", "sinking", "(II)I"⟩, 49) := ⟨⟨by decide +kernel, by decide +kernel⟩, List.mem_of_getElem? (i := 812) (by decide +kernel), List.mem_of_getElem? (i := 1283) (by decide +kernel), List.mem_of_getElem? (i := 1284) (by decide +kernel)⟩
def lw_privs_5 : List (MethodName × Nat) := [(⟨"FountainGivesChangeModel", "wanting", "(I)I"⟩, 49), (⟨"FountainGivesChangeModel", "goes", "(II)I"⟩, 49), (⟨"FountainGivesChangeModel", "day", "()V"⟩, 49), (⟨"FountainGivesChangeModel", "draw", "(I)I"⟩, 49), (⟨"FountainGivesChangeModel", "allGranted", "()I"⟩, 49), (⟨"FountainGivesChangeModel", "falling", "(II)I"⟩, 49), (⟨"FountainGivesChangeModel", "body", "(I)V"⟩, 49), (⟨"FountainGivesChangeModel", "ringing", "(II)I"⟩, 49), (⟨"FountainGivesChangeModel", "sinking", "(II)I"⟩, 49)]
theorem lw_r5 : ∀ q ∈ lw_privs_5, lw_okq q := List.forall_mem_cons.mpr ⟨lw_p64, List.forall_mem_cons.mpr ⟨lw_p65, List.forall_mem_cons.mpr ⟨lw_p66, List.forall_mem_cons.mpr ⟨lw_p67, List.forall_mem_cons.mpr ⟨lw_p68, List.forall_mem_cons.mpr ⟨lw_p69, List.forall_mem_cons.mpr ⟨lw_p70, List.forall_mem_cons.mpr ⟨lw_p71, List.forall_mem_cons.mpr ⟨lw_p72, fun _ h => absurd h List.not_mem_nil⟩⟩⟩⟩⟩⟩⟩⟩⟩
def lw_privs : List (MethodName × Nat) := lw_privs_1 ++ (lw_privs_2 ++ (lw_privs_3 ++ (lw_privs_4 ++ (lw_privs_5))))
def lw_tbl : List Cond := k2_sels lw_privs ++ tables_1
theorem lw_privs_ok : ∀ q ∈ lw_privs, lw_okq q := by
  show ∀ q ∈ lw_privs_1 ++ (lw_privs_2 ++ (lw_privs_3 ++ (lw_privs_4 ++ (lw_privs_5)))), lw_okq q
  exact List.forall_mem_append.mpr ⟨lw_r1, List.forall_mem_append.mpr ⟨lw_r2, List.forall_mem_append.mpr ⟨lw_r3, List.forall_mem_append.mpr ⟨lw_r4, lw_r5⟩⟩⟩⟩
end
section
def RX0 : String := "FountainGivesChange$Change"
def TX0 : u_T := fun k => match k with
  | _ => ("FountainGivesChange$Change", "least", "[I", true)
def tyX0 : Nat → FieldType := fun k => match k with
  | _ => .array .int
abbrev wsX00 : List Cond := u_ws RX0 TX0 1
theorem nmX0 : ∀ a, a < 1 → ∀ b, b < 1 → a ≠ b → (TX0 a).2.1 ≠ (TX0 b).2.1 := by decide +kernel
theorem tyX0_ok : ∀ k, k < 1 → parseFieldDescriptor (TX0 k).2.2.1 = some (tyX0 k) := by decide +kernel
abbrev cX0_init : ByteArray := prog_2_method_1_code
def yX0_init : MethodName := ⟨RX0, "<init>", "()V"⟩
abbrev cX0_bitsBy : ByteArray := prog_2_method_2_code
def yX0_bitsBy : MethodName := ⟨RX0, "bitsBy", "(LFountainGivesChange$Square;II)I"⟩
abbrev cX0_weigh : ByteArray := prog_2_method_3_code
def yX0_weigh : MethodName := ⟨RX0, "weigh", "(LFountainGivesChange$Square;I)V"⟩
abbrev cX0_putIn : ByteArray := prog_2_method_4_code
def yX0_putIn : MethodName := ⟨RX0, "putIn", "(II)V"⟩
abbrev cX0_fewestFor : ByteArray := prog_2_method_5_code
def yX0_fewestFor : MethodName := ⟨RX0, "fewestFor", "(I)I"⟩
abbrev cX0_amountsOf : ByteArray := prog_2_method_6_code
def yX0_amountsOf : MethodName := ⟨RX0, "amountsOf", "(LFountainGivesChange$Square;I)I"⟩
def RX1 : String := "FountainGivesChange$Moves"
def TX1 : u_T := fun k => match k with
  | 0 => ("FountainGivesChange$Moves", "bodies", "[I", true)
  | 1 => ("FountainGivesChange$Moves", "ran", "I", false)
  | 2 => ("FountainGivesChange$Moves", "number", "I", false)
  | 3 => ("FountainGivesChange$Moves", "kind", "I", false)
  | _ => ("FountainGivesChange$Moves", "a", "I", false)
def tyX1 : Nat → FieldType := fun k => match k with
  | 0 => .array .int
  | 1 => .int
  | 2 => .int
  | 3 => .int
  | _ => .int
abbrev wsX10 : List Cond := u_ws RX1 TX1 5
theorem nmX1 : ∀ a, a < 5 → ∀ b, b < 5 → a ≠ b → (TX1 a).2.1 ≠ (TX1 b).2.1 := by decide +kernel
theorem tyX1_ok : ∀ k, k < 5 → parseFieldDescriptor (TX1 k).2.2.1 = some (tyX1 k) := by decide +kernel
abbrev cX1_init : ByteArray := prog_3_method_1_code
def yX1_init : MethodName := ⟨RX1, "<init>", "()V"⟩
abbrev cX1_bodyAt : ByteArray := prog_3_method_2_code
def yX1_bodyAt : MethodName := ⟨RX1, "bodyAt", "(I)I"⟩
abbrev cX1_answer : ByteArray := prog_3_method_3_code
def yX1_answer : MethodName := ⟨RX1, "answer", "(LFountainGivesChange$Square;III)I"⟩
abbrev cX1_begin : ByteArray := prog_3_method_4_code
def yX1_begin : MethodName := ⟨RX1, "begin", "(I)V"⟩
abbrev cX1_bodyOf : ByteArray := prog_3_method_5_code
def yX1_bodyOf : MethodName := ⟨RX1, "bodyOf", "(II)I"⟩
abbrev cX1_kindWithBody : ByteArray := prog_3_method_6_code
def yX1_kindWithBody : MethodName := ⟨RX1, "kindWithBody", "(II)I"⟩
abbrev cX1_answerFrom : ByteArray := prog_3_method_7_code
def yX1_answerFrom : MethodName := ⟨RX1, "answerFrom", "(LFountainGivesChange$Moves;IIII)I"⟩
def RX2 : String := "FountainGivesChange$Reader"
def TX2 : u_T := fun k => match k with
  | 0 => ("FountainGivesChange$Reader", "square", "LFountainGivesChange$Square;", true)
  | 1 => ("FountainGivesChange$Reader", "fault", "I", false)
  | 2 => ("FountainGivesChange$Reader", "letters", "[I", true)
  | 3 => ("FountainGivesChange$Reader", "size", "I", false)
  | 4 => ("FountainGivesChange$Reader", "at", "I", false)
  | _ => ("FountainGivesChange$Reader", "numberAt", "I", false)
def tyX2 : Nat → FieldType := fun k => match k with
  | 0 => .object "FountainGivesChange$Square"
  | 1 => .int
  | 2 => .array .int
  | 3 => .int
  | 4 => .int
  | _ => .int
abbrev wsX20 : List Cond := u_ws RX2 TX2 6
theorem nmX2 : ∀ a, a < 6 → ∀ b, b < 6 → a ≠ b → (TX2 a).2.1 ≠ (TX2 b).2.1 := by decide +kernel
theorem tyX2_ok : ∀ k, k < 6 → parseFieldDescriptor (TX2 k).2.2.1 = some (tyX2 k) := by decide +kernel
abbrev cX2_init : ByteArray := prog_4_method_1_code
def yX2_init : MethodName := ⟨RX2, "<init>", "()V"⟩
abbrev cX2_read : ByteArray := prog_4_method_2_code
def yX2_read : MethodName := ⟨RX2, "read", "(LFountainGivesChange$Shelf;LFountainGivesChange$Square;)I"⟩
abbrev cX2_readItem : ByteArray := prog_4_method_3_code
def yX2_readItem : MethodName := ⟨RX2, "readItem", "()V"⟩
abbrev cX2_readPiece : ByteArray := prog_4_method_4_code
def yX2_readPiece : MethodName := ⟨RX2, "readPiece", "(I)V"⟩
abbrev cX2_readPerson : ByteArray := prog_4_method_5_code
def yX2_readPerson : MethodName := ⟨RX2, "readPerson", "(I)V"⟩
abbrev cX2_readCost : ByteArray := prog_4_method_6_code
def yX2_readCost : MethodName := ⟨RX2, "readCost", "()V"⟩
abbrev cX2_readHas : ByteArray := prog_4_method_7_code
def yX2_readHas : MethodName := ⟨RX2, "readHas", "()V"⟩
abbrev cX2_readBack : ByteArray := prog_4_method_8_code
def yX2_readBack : MethodName := ⟨RX2, "readBack", "()V"⟩
abbrev cX2_readWord : ByteArray := prog_4_method_9_code
def yX2_readWord : MethodName := ⟨RX2, "readWord", "()I"⟩
abbrev cX2_spelt : ByteArray := prog_4_method_10_code
def yX2_spelt : MethodName := ⟨RX2, "spelt", "(I)Ljava/lang/String;"⟩
abbrev cX2_lettersAsIn : ByteArray := prog_4_method_11_code
def yX2_lettersAsIn : MethodName := ⟨RX2, "lettersAsIn", "(Ljava/lang/String;)I"⟩
abbrev cX2_stands : ByteArray := prog_4_method_12_code
def yX2_stands : MethodName := ⟨RX2, "stands", "(IC)Z"⟩
abbrev cX2_readSign : ByteArray := prog_4_method_13_code
def yX2_readSign : MethodName := ⟨RX2, "readSign", "(C)V"⟩
abbrev cX2_readNumber : ByteArray := prog_4_method_14_code
def yX2_readNumber : MethodName := ⟨RX2, "readNumber", "(II)I"⟩
abbrev cX2_isDigit : ByteArray := prog_4_method_15_code
def yX2_isDigit : MethodName := ⟨RX2, "isDigit", "(I)Z"⟩
abbrev cX2_readDigit : ByteArray := prog_4_method_16_code
def yX2_readDigit : MethodName := ⟨RX2, "readDigit", "()I"⟩
def RX3 : String := "FountainGivesChange$Shelf"
def TX3 : u_T := fun k => match k with
  | 0 => ("FountainGivesChange$Shelf", "elements", "[J", true)
  | 1 => ("FountainGivesChange$Shelf", "held", "I", false)
  | _ => ("FountainGivesChange$Shelf", "size", "I", false)
def tyX3 : Nat → FieldType := fun k => match k with
  | 0 => .array .long
  | 1 => .int
  | _ => .int
abbrev wsX30 : List Cond := u_ws RX3 TX3 3
theorem nmX3 : ∀ a, a < 3 → ∀ b, b < 3 → a ≠ b → (TX3 a).2.1 ≠ (TX3 b).2.1 := by decide +kernel
theorem tyX3_ok : ∀ k, k < 3 → parseFieldDescriptor (TX3 k).2.2.1 = some (tyX3 k) := by decide +kernel
abbrev cX3_init : ByteArray := prog_5_method_1_code
def yX3_init : MethodName := ⟨RX3, "<init>", "()V"⟩
abbrev cX3_holdRow : ByteArray := prog_5_method_2_code
def yX3_holdRow : MethodName := ⟨RX3, "holdRow", "(II)V"⟩
abbrev cX3_holdPiece : ByteArray := prog_5_method_3_code
def yX3_holdPiece : MethodName := ⟨RX3, "holdPiece", "(I)V"⟩
abbrev cX3_isEmpty : ByteArray := prog_5_method_4_code
def yX3_isEmpty : MethodName := ⟨RX3, "isEmpty", "()Z"⟩
abbrev cX3_isOtherThanRow : ByteArray := prog_5_method_5_code
def yX3_isOtherThanRow : MethodName := ⟨RX3, "isOtherThanRow", "()Z"⟩
abbrev cX3_isOfOtherSort : ByteArray := prog_5_method_6_code
def yX3_isOfOtherSort : MethodName := ⟨RX3, "isOfOtherSort", "(LFountainGivesChange$Shelf;)Z"⟩
abbrev cX3_hasElement : ByteArray := prog_5_method_7_code
def yX3_hasElement : MethodName := ⟨RX3, "hasElement", "(I)Z"⟩
abbrev cX3_hasStretch : ByteArray := prog_5_method_8_code
def yX3_hasStretch : MethodName := ⟨RX3, "hasStretch", "(II)Z"⟩
abbrev cX3_put : ByteArray := prog_5_method_9_code
def yX3_put : MethodName := ⟨RX3, "put", "(IJ)V"⟩
abbrev cX3_lowestBits : ByteArray := prog_5_method_10_code
def yX3_lowestBits : MethodName := ⟨RX3, "lowestBits", "(J)J"⟩
abbrev cX3_copyTo : ByteArray := prog_5_method_11_code
def yX3_copyTo : MethodName := ⟨RX3, "copyTo", "(LFountainGivesChange$Shelf;III)V"⟩
abbrev cX3_whole : ByteArray := prog_5_method_12_code
def yX3_whole : MethodName := ⟨RX3, "whole", "(I)J"⟩
abbrev cX3_read : ByteArray := prog_5_method_13_code
def yX3_read : MethodName := ⟨RX3, "read", "(I)I"⟩
abbrev cX3_readAll : ByteArray := prog_5_method_14_code
def yX3_readAll : MethodName := ⟨RX3, "readAll", "([I)I"⟩
abbrev cX3_first : ByteArray := prog_5_method_15_code
def yX3_first : MethodName := ⟨RX3, "first", "(I)I"⟩
abbrev cX3_second : ByteArray := prog_5_method_16_code
def yX3_second : MethodName := ⟨RX3, "second", "(I)I"⟩
def RX4 : String := "FountainGivesChange$Square"
def TX4 : u_T := fun k => match k with
  | 0 => ("FountainGivesChange$Square", "kind", "[I", true)
  | 1 => ("FountainGivesChange$Square", "a", "[I", true)
  | 2 => ("FountainGivesChange$Square", "base", "[I", true)
  | 3 => ("FountainGivesChange$Square", "place", "[I", true)
  | 4 => ("FountainGivesChange$Square", "purse", "[I", true)
  | 5 => ("FountainGivesChange$Square", "luck", "[I", true)
  | 6 => ("FountainGivesChange$Square", "want", "[I", true)
  | 7 => ("FountainGivesChange$Square", "granted", "[I", true)
  | 8 => ("FountainGivesChange$Square", "cost", "[I", true)
  | 9 => ("FountainGivesChange$Square", "pieces", "I", false)
  | 10 => ("FountainGivesChange$Square", "people", "I", false)
  | 11 => ("FountainGivesChange$Square", "rule", "I", false)
  | 12 => ("FountainGivesChange$Square", "money", "I", false)
  | 13 => ("FountainGivesChange$Square", "days", "I", false)
  | _ => ("FountainGivesChange$Square", "seed", "I", false)
def tyX4 : Nat → FieldType := fun k => match k with
  | 0 => .array .int
  | 1 => .array .int
  | 2 => .array .int
  | 3 => .array .int
  | 4 => .array .int
  | 5 => .array .int
  | 6 => .array .int
  | 7 => .array .int
  | 8 => .array .int
  | 9 => .int
  | 10 => .int
  | 11 => .int
  | 12 => .int
  | 13 => .int
  | _ => .int
abbrev wsX40 : List Cond := u_ws RX4 TX4 15
theorem nmX4 : ∀ a, a < 15 → ∀ b, b < 15 → a ≠ b → (TX4 a).2.1 ≠ (TX4 b).2.1 := by decide +kernel
theorem tyX4_ok : ∀ k, k < 15 → parseFieldDescriptor (TX4 k).2.2.1 = some (tyX4 k) := by decide +kernel
abbrev cX4_init : ByteArray := prog_6_method_1_code
def yX4_init : MethodName := ⟨RX4, "<init>", "()V"⟩
abbrev cX4_isKind : ByteArray := prog_6_method_2_code
def yX4_isKind : MethodName := ⟨RX4, "isKind", "(I)Z"⟩
abbrev cX4_isWish : ByteArray := prog_6_method_3_code
def yX4_isWish : MethodName := ⟨RX4, "isWish", "(I)Z"⟩
abbrev cX4_isAmount : ByteArray := prog_6_method_4_code
def yX4_isAmount : MethodName := ⟨RX4, "isAmount", "(I)Z"⟩
abbrev cX4_isBit : ByteArray := prog_6_method_5_code
def yX4_isBit : MethodName := ⟨RX4, "isBit", "(II)Z"⟩
abbrev cX4_isPiece : ByteArray := prog_6_method_6_code
def yX4_isPiece : MethodName := ⟨RX4, "isPiece", "(I)Z"⟩
abbrev cX4_isPerson : ByteArray := prog_6_method_7_code
def yX4_isPerson : MethodName := ⟨RX4, "isPerson", "(I)Z"⟩
abbrev cX4_hasRoomForPiece : ByteArray := prog_6_method_8_code
def yX4_hasRoomForPiece : MethodName := ⟨RX4, "hasRoomForPiece", "()Z"⟩
abbrev cX4_hasRoomForPerson : ByteArray := prog_6_method_9_code
def yX4_hasRoomForPerson : MethodName := ⟨RX4, "hasRoomForPerson", "()Z"⟩
abbrev cX4_isOfKind : ByteArray := prog_6_method_10_code
def yX4_isOfKind : MethodName := ⟨RX4, "isOfKind", "(II)Z"⟩
abbrev cX4_take : ByteArray := prog_6_method_11_code
def yX4_take : MethodName := ⟨RX4, "take", "(LFountainGivesChange$Square;)V"⟩
abbrev cX4_addPiece : ByteArray := prog_6_method_12_code
def yX4_addPiece : MethodName := ⟨RX4, "addPiece", "(III)I"⟩
abbrev cX4_addPerson : ByteArray := prog_6_method_13_code
def yX4_addPerson : MethodName := ⟨RX4, "addPerson", "(III)I"⟩
abbrev cX4_worthOf : ByteArray := prog_6_method_14_code
def yX4_worthOf : MethodName := ⟨RX4, "worthOf", "(I)I"⟩
abbrev cX4_harmOf : ByteArray := prog_6_method_15_code
def yX4_harmOf : MethodName := ⟨RX4, "harmOf", "(I)I"⟩
abbrev cX4_worthOfBits : ByteArray := prog_6_method_16_code
def yX4_worthOfBits : MethodName := ⟨RX4, "worthOfBits", "(I)I"⟩
abbrev cX4_harmOfBits : ByteArray := prog_6_method_17_code
def yX4_harmOfBits : MethodName := ⟨RX4, "harmOfBits", "(I)I"⟩
abbrev cX4_bitsAt : ByteArray := prog_6_method_18_code
def yX4_bitsAt : MethodName := ⟨RX4, "bitsAt", "(I)I"⟩
abbrev cX4_basin : ByteArray := prog_6_method_19_code
def yX4_basin : MethodName := ⟨RX4, "basin", "()I"⟩
abbrev cX4_wanting : ByteArray := prog_6_method_20_code
def yX4_wanting : MethodName := ⟨RX4, "wanting", "(I)I"⟩
abbrev cX4_grantedTogether : ByteArray := prog_6_method_21_code
def yX4_grantedTogether : MethodName := ⟨RX4, "grantedTogether", "()I"⟩
abbrev cX4_priceFor : ByteArray := prog_6_method_22_code
def yX4_priceFor : MethodName := ⟨RX4, "priceFor", "(II)I"⟩
abbrev cX4_priceByCost : ByteArray := prog_6_method_23_code
def yX4_priceByCost : MethodName := ⟨RX4, "priceByCost", "(III)I"⟩
abbrev cX4_bestThrow : ByteArray := prog_6_method_24_code
def yX4_bestThrow : MethodName := ⟨RX4, "bestThrow", "(I)I"⟩
abbrev cX4_greedyFor : ByteArray := prog_6_method_25_code
def yX4_greedyFor : MethodName := ⟨RX4, "greedyFor", "(I)I"⟩
abbrev cX4_greatestUpTo : ByteArray := prog_6_method_26_code
def yX4_greatestUpTo : MethodName := ⟨RX4, "greatestUpTo", "(II)I"⟩
abbrev cX4_grant : ByteArray := prog_6_method_27_code
def yX4_grant : MethodName := ⟨RX4, "grant", "(III)V"⟩
abbrev cX4_draw : ByteArray := prog_6_method_28_code
def yX4_draw : MethodName := ⟨RX4, "draw", "(I)I"⟩
abbrev cX4_drawDay : ByteArray := prog_6_method_29_code
def yX4_drawDay : MethodName := ⟨RX4, "drawDay", "()V"⟩
abbrev cX4_throwIn : ByteArray := prog_6_method_30_code
def yX4_throwIn : MethodName := ⟨RX4, "throwIn", "(II)V"⟩
def RX5 : String := "FountainGivesChange"
def TX5 : u_T := fun k => match k with
  | 0 => ("FountainGivesChange", "now", "LFountainGivesChange$Square;", true)
  | 1 => ("FountainGivesChange", "draft", "LFountainGivesChange$Square;", true)
  | 2 => ("FountainGivesChange", "kept", "LFountainGivesChange$Square;", true)
  | 3 => ("FountainGivesChange", "shelves", "[LFountainGivesChange$Shelf;", true)
  | 4 => ("FountainGivesChange", "table", "LFountainGivesChange$Change;", true)
  | 5 => ("FountainGivesChange", "reader", "LFountainGivesChange$Reader;", true)
  | 6 => ("FountainGivesChange", "moves", "LFountainGivesChange$Moves;", true)
  | 7 => ("FountainGivesChange", "refused", "[I", true)
  | 8 => ("FountainGivesChange", "imaged", "Z", false)
  | _ => ("FountainGivesChange", "latestFault", "I", false)
def tyX5 : Nat → FieldType := fun k => match k with
  | 0 => .object "FountainGivesChange$Square"
  | 1 => .object "FountainGivesChange$Square"
  | 2 => .object "FountainGivesChange$Square"
  | 3 => .array (.object "FountainGivesChange$Shelf")
  | 4 => .object "FountainGivesChange$Change"
  | 5 => .object "FountainGivesChange$Reader"
  | 6 => .object "FountainGivesChange$Moves"
  | 7 => .array .int
  | 8 => .boolean
  | _ => .int
abbrev wsX50 : List Cond := u_ws RX5 TX5 10
theorem nmX5 : ∀ a, a < 10 → ∀ b, b < 10 → a ≠ b → (TX5 a).2.1 ≠ (TX5 b).2.1 := by decide +kernel
theorem tyX5_ok : ∀ k, k < 10 → parseFieldDescriptor (TX5 k).2.2.1 = some (tyX5 k) := by decide +kernel
abbrev cX5_init : ByteArray := prog_1_method_1_code
def yX5_init : MethodName := ⟨RX5, "<init>", "()V"⟩
abbrev cX5_row : ByteArray := prog_1_method_2_code
def yX5_row : MethodName := ⟨RX5, "row", "(III)I"⟩
abbrev cX5_set : ByteArray := prog_1_method_3_code
def yX5_set : MethodName := ⟨RX5, "set", "(IIJ)I"⟩
abbrev cX5_copy : ByteArray := prog_1_method_4_code
def yX5_copy : MethodName := ⟨RX5, "copy", "(IIIII)I"⟩
abbrev cX5_element : ByteArray := prog_1_method_5_code
def yX5_element : MethodName := ⟨RX5, "element", "(II)J"⟩
abbrev cX5_show : ByteArray := prog_1_method_6_code
def yX5_show : MethodName := ⟨RX5, "show", "(II)I"⟩
abbrev cX5_holds : ByteArray := prog_1_method_7_code
def yX5_holds : MethodName := ⟨RX5, "holds", "(I)I"⟩
abbrev cX5_says : ByteArray := prog_1_method_8_code
def yX5_says : MethodName := ⟨RX5, "says", "(II)I"⟩
abbrev cX5_piece : ByteArray := prog_1_method_9_code
def yX5_piece : MethodName := ⟨RX5, "piece", "(III)I"⟩
abbrev cX5_person : ByteArray := prog_1_method_10_code
def yX5_person : MethodName := ⟨RX5, "person", "(III)I"⟩
abbrev cX5_cost : ByteArray := prog_1_method_11_code
def yX5_cost : MethodName := ⟨RX5, "cost", "(II)I"⟩
abbrev cX5_rule : ByteArray := prog_1_method_12_code
def yX5_rule : MethodName := ⟨RX5, "rule", "(I)I"⟩
abbrev cX5_tell : ByteArray := prog_1_method_13_code
def yX5_tell : MethodName := ⟨RX5, "tell", "(III)I"⟩
abbrev cX5_pieceOf : ByteArray := prog_1_method_14_code
def yX5_pieceOf : MethodName := ⟨RX5, "pieceOf", "(II)I"⟩
abbrev cX5_personOf : ByteArray := prog_1_method_15_code
def yX5_personOf : MethodName := ⟨RX5, "personOf", "(II)I"⟩
abbrev cX5_square : ByteArray := prog_1_method_16_code
def yX5_square : MethodName := ⟨RX5, "square", "(I)I"⟩
abbrev cX5_fault : ByteArray := prog_1_method_17_code
def yX5_fault : MethodName := ⟨RX5, "fault", "()I"⟩
abbrev cX5_price : ByteArray := prog_1_method_18_code
def yX5_price : MethodName := ⟨RX5, "price", "(II)I"⟩
abbrev cX5_change : ByteArray := prog_1_method_19_code
def yX5_change : MethodName := ⟨RX5, "change", "(II)I"⟩
abbrev cX5_harm : ByteArray := prog_1_method_20_code
def yX5_harm : MethodName := ⟨RX5, "harm", "(II)I"⟩
abbrev cX5_best : ByteArray := prog_1_method_21_code
def yX5_best : MethodName := ⟨RX5, "best", "(II)I"⟩
abbrev cX5_fails : ByteArray := prog_1_method_22_code
def yX5_fails : MethodName := ⟨RX5, "fails", "(I)I"⟩
abbrev cX5_amounts : ByteArray := prog_1_method_23_code
def yX5_amounts : MethodName := ⟨RX5, "amounts", "(I)I"⟩
abbrev cX5_run : ByteArray := prog_1_method_24_code
def yX5_run : MethodName := ⟨RX5, "run", "(I)I"⟩
abbrev cX5_rules : ByteArray := prog_1_method_25_code
def yX5_rules : MethodName := ⟨RX5, "rules", "(II)I"⟩
abbrev cX5_costs : ByteArray := prog_1_method_26_code
def yX5_costs : MethodName := ⟨RX5, "costs", "(IIII)I"⟩
abbrev cX5_dear : ByteArray := prog_1_method_27_code
def yX5_dear : MethodName := ⟨RX5, "dear", "(I)I"⟩
abbrev cX5_rich : ByteArray := prog_1_method_28_code
def yX5_rich : MethodName := ⟨RX5, "rich", "(I)I"⟩
abbrev cX5_judge : ByteArray := prog_1_method_29_code
def yX5_judge : MethodName := ⟨RX5, "judge", "(II)I"⟩
abbrev cX5_behind : ByteArray := prog_1_method_30_code
def yX5_behind : MethodName := ⟨RX5, "behind", "(III)I"⟩
abbrev cX5_done : ByteArray := prog_1_method_31_code
def yX5_done : MethodName := ⟨RX5, "done", "(II)I"⟩
abbrev cX5_cast : ByteArray := prog_1_method_32_code
def yX5_cast : MethodName := ⟨RX5, "cast", "(II)I"⟩
abbrev cX5_back : ByteArray := prog_1_method_33_code
def yX5_back : MethodName := ⟨RX5, "back", "(I)I"⟩
abbrev cX5_days : ByteArray := prog_1_method_34_code
def yX5_days : MethodName := ⟨RX5, "days", "(I)I"⟩
abbrev cX5_seed : ByteArray := prog_1_method_35_code
def yX5_seed : MethodName := ⟨RX5, "seed", "(I)I"⟩
abbrev cX5_act : ByteArray := prog_1_method_36_code
def yX5_act : MethodName := ⟨RX5, "act", "(III)I"⟩
abbrev cX5_trace : ByteArray := prog_1_method_37_code
def yX5_trace : MethodName := ⟨RX5, "trace", "(I)I"⟩
abbrev cX5_image : ByteArray := prog_1_method_38_code
def yX5_image : MethodName := ⟨RX5, "image", "()I"⟩
abbrev cX5_restore : ByteArray := prog_1_method_39_code
def yX5_restore : MethodName := ⟨RX5, "restore", "()I"⟩
abbrev cX5_status : ByteArray := prog_1_method_40_code
def yX5_status : MethodName := ⟨RX5, "status", "(I)I"⟩
abbrev cX5_isFrom : ByteArray := prog_1_method_41_code
def yX5_isFrom : MethodName := ⟨RX5, "isFrom", "(III)Z"⟩
abbrev cX5_isOneOfTwo : ByteArray := prog_1_method_42_code
def yX5_isOneOfTwo : MethodName := ⟨RX5, "isOneOfTwo", "(I)Z"⟩
abbrev cX5_isShelf : ByteArray := prog_1_method_43_code
def yX5_isShelf : MethodName := ⟨RX5, "isShelf", "(I)Z"⟩
abbrev cX5_refuse : ByteArray := prog_1_method_44_code
def yX5_refuse : MethodName := ⟨RX5, "refuse", "(I)I"⟩
abbrev cX5_whyNoRow : ByteArray := prog_1_method_45_code
def yX5_whyNoRow : MethodName := ⟨RX5, "whyNoRow", "(I)I"⟩
abbrev cX5_whyNoTwos : ByteArray := prog_1_method_46_code
def yX5_whyNoTwos : MethodName := ⟨RX5, "whyNoTwos", "(IIIZ)I"⟩
abbrev cX5_tellOne : ByteArray := prog_1_method_47_code
def yX5_tellOne : MethodName := ⟨RX5, "tellOne", "([IIII)I"⟩
abbrev cX5_throwBy : ByteArray := prog_1_method_48_code
def yX5_throwBy : MethodName := ⟨RX5, "throwBy", "(LFountainGivesChange$Square;II)I"⟩
abbrev cX5_draftDay : ByteArray := prog_1_method_49_code
def yX5_draftDay : MethodName := ⟨RX5, "draftDay", "(LFountainGivesChange$Shelf;I)I"⟩
abbrev cX5_areAllThere : ByteArray := prog_1_method_50_code
def yX5_areAllThere : MethodName := ⟨RX5, "areAllThere", "(LFountainGivesChange$Shelf;I)Z"⟩
abbrev cX5_isCost : ByteArray := prog_1_method_51_code
def yX5_isCost : MethodName := ⟨RX5, "isCost", "(LFountainGivesChange$Shelf;III)Z"⟩
abbrev cX5_dearest : ByteArray := prog_1_method_52_code
def yX5_dearest : MethodName := ⟨RX5, "dearest", "()I"⟩
abbrev cX5_crowd : ByteArray := prog_1_method_53_code
def yX5_crowd : MethodName := ⟨RX5, "crowd", "()I"⟩
def RX6 : String := "FountainGivesChangeModel"
def TX6 : u_T := fun k => match k with
  | 0 => ("FountainGivesChangeModel", "pieces", "I", false)
  | 1 => ("FountainGivesChangeModel", "people", "I", false)
  | 2 => ("FountainGivesChangeModel", "byRule", "I", false)
  | 3 => ("FountainGivesChangeModel", "money", "I", false)
  | 4 => ("FountainGivesChangeModel", "gone", "I", false)
  | 5 => ("FountainGivesChangeModel", "seed", "I", false)
  | 6 => ("FountainGivesChangeModel", "fault", "I", false)
  | 7 => ("FountainGivesChangeModel", "refused", "[I", true)
  | 8 => ("FountainGivesChangeModel", "kind", "[I", true)
  | 9 => ("FountainGivesChangeModel", "part", "[I", true)
  | 10 => ("FountainGivesChangeModel", "base", "[I", true)
  | 11 => ("FountainGivesChangeModel", "owner", "[I", true)
  | 12 => ("FountainGivesChangeModel", "purse", "[I", true)
  | 13 => ("FountainGivesChangeModel", "luck", "[I", true)
  | 14 => ("FountainGivesChangeModel", "want", "[I", true)
  | 15 => ("FountainGivesChangeModel", "granted", "[I", true)
  | 16 => ("FountainGivesChangeModel", "costOf", "[I", true)
  | 17 => ("FountainGivesChangeModel", "held", "[I", true)
  | 18 => ("FountainGivesChangeModel", "sort", "[I", true)
  | 19 => ("FountainGivesChangeModel", "size", "[I", true)
  | 20 => ("FountainGivesChangeModel", "shown", "[I", true)
  | 21 => ("FountainGivesChangeModel", "cells", "[J", true)
  | 22 => ("FountainGivesChangeModel", "carried", "[J", true)
  | 23 => ("FountainGivesChangeModel", "words", "[I", true)
  | 24 => ("FountainGivesChangeModel", "numbers", "[I", true)
  | 25 => ("FountainGivesChangeModel", "mosts", "[I", true)
  | 26 => ("FountainGivesChangeModel", "told", "[I", true)
  | 27 => ("FountainGivesChangeModel", "start", "I", false)
  | 28 => ("FountainGivesChangeModel", "place", "I", false)
  | 29 => ("FountainGivesChangeModel", "end", "I", false)
  | 30 => ("FountainGivesChangeModel", "number", "I", false)
  | 31 => ("FountainGivesChangeModel", "wrongAt", "I", false)
  | 32 => ("FountainGivesChangeModel", "was", "[I", true)
  | 33 => ("FountainGivesChangeModel", "kept", "[I", true)
  | 34 => ("FountainGivesChangeModel", "later", "[I", true)
  | 35 => ("FountainGivesChangeModel", "bestFor", "[I", true)
  | 36 => ("FountainGivesChangeModel", "bestThrow", "I", false)
  | 37 => ("FountainGivesChangeModel", "bestHarm", "I", false)
  | 38 => ("FountainGivesChangeModel", "order", "[I", true)
  | 39 => ("FountainGivesChangeModel", "bestOrder", "[I", true)
  | 40 => ("FountainGivesChangeModel", "purseWas", "[I", true)
  | 41 => ("FountainGivesChangeModel", "ownerWas", "[I", true)
  | 42 => ("FountainGivesChangeModel", "mostGranted", "I", false)
  | 43 => ("FountainGivesChangeModel", "grantedThen", "I", false)
  | 44 => ("FountainGivesChangeModel", "harmThen", "I", false)
  | 45 => ("FountainGivesChangeModel", "moneyThen", "I", false)
  | 46 => ("FountainGivesChangeModel", "trace", "[I", true)
  | 47 => ("FountainGivesChangeModel", "ran", "I", false)
  | _ => ("FountainGivesChangeModel", "isThere", "Z", false)
def tyX6 : Nat → FieldType := fun k => match k with
  | 0 => .int
  | 1 => .int
  | 2 => .int
  | 3 => .int
  | 4 => .int
  | 5 => .int
  | 6 => .int
  | 7 => .array .int
  | 8 => .array .int
  | 9 => .array .int
  | 10 => .array .int
  | 11 => .array .int
  | 12 => .array .int
  | 13 => .array .int
  | 14 => .array .int
  | 15 => .array .int
  | 16 => .array .int
  | 17 => .array .int
  | 18 => .array .int
  | 19 => .array .int
  | 20 => .array .int
  | 21 => .array .long
  | 22 => .array .long
  | 23 => .array .int
  | 24 => .array .int
  | 25 => .array .int
  | 26 => .array .int
  | 27 => .int
  | 28 => .int
  | 29 => .int
  | 30 => .int
  | 31 => .int
  | 32 => .array .int
  | 33 => .array .int
  | 34 => .array .int
  | 35 => .array .int
  | 36 => .int
  | 37 => .int
  | 38 => .array .int
  | 39 => .array .int
  | 40 => .array .int
  | 41 => .array .int
  | 42 => .int
  | 43 => .int
  | 44 => .int
  | 45 => .int
  | 46 => .array .int
  | 47 => .int
  | _ => .boolean
abbrev wsX60 : List Cond := u_ws RX6 TX6 49
theorem nmX6 : ∀ a, a < 49 → ∀ b, b < 49 → a ≠ b → (TX6 a).2.1 ≠ (TX6 b).2.1 := by decide +kernel
theorem tyX6_ok : ∀ k, k < 49 → parseFieldDescriptor (TX6 k).2.2.1 = some (tyX6 k) := by decide +kernel
abbrev cX6_init : ByteArray := prog_8_method_1_code
def yX6_init : MethodName := ⟨RX6, "<init>", "()V"⟩
abbrev cX6_no : ByteArray := prog_8_method_2_code
def yX6_no : MethodName := ⟨RX6, "no", "(I)I"⟩
abbrev cX6_noTen : ByteArray := prog_8_method_3_code
def yX6_noTen : MethodName := ⟨RX6, "noTen", "(I)I"⟩
abbrev cX6_isShelf : ByteArray := prog_8_method_4_code
def yX6_isShelf : MethodName := ⟨RX6, "isShelf", "(I)Z"⟩
abbrev cX6_isPiece : ByteArray := prog_8_method_5_code
def yX6_isPiece : MethodName := ⟨RX6, "isPiece", "(I)Z"⟩
abbrev cX6_isOne : ByteArray := prog_8_method_6_code
def yX6_isOne : MethodName := ⟨RX6, "isOne", "(I)Z"⟩
abbrev cX6_isFrom : ByteArray := prog_8_method_7_code
def yX6_isFrom : MethodName := ⟨RX6, "isFrom", "(III)Z"⟩
abbrev cX6_row : ByteArray := prog_8_method_8_code
def yX6_row : MethodName := ⟨RX6, "row", "(III)I"⟩
abbrev cX6_set : ByteArray := prog_8_method_9_code
def yX6_set : MethodName := ⟨RX6, "set", "(IIJ)I"⟩
abbrev cX6_copy : ByteArray := prog_8_method_10_code
def yX6_copy : MethodName := ⟨RX6, "copy", "(IIIII)I"⟩
abbrev cX6_element : ByteArray := prog_8_method_11_code
def yX6_element : MethodName := ⟨RX6, "element", "(II)J"⟩
abbrev cX6_show : ByteArray := prog_8_method_12_code
def yX6_show : MethodName := ⟨RX6, "show", "(II)I"⟩
abbrev cX6_holds : ByteArray := prog_8_method_13_code
def yX6_holds : MethodName := ⟨RX6, "holds", "(I)I"⟩
abbrev cX6_says : ByteArray := prog_8_method_14_code
def yX6_says : MethodName := ⟨RX6, "says", "(II)I"⟩
abbrev cX6_wanted : ByteArray := prog_8_method_15_code
def yX6_wanted : MethodName := ⟨RX6, "wanted", "(I)I"⟩
abbrev cX6_intAt : ByteArray := prog_8_method_16_code
def yX6_intAt : MethodName := ⟨RX6, "intAt", "(II)I"⟩
abbrev cX6_worth : ByteArray := prog_8_method_17_code
def yX6_worth : MethodName := ⟨RX6, "worth", "(I)I"⟩
abbrev cX6_harms : ByteArray := prog_8_method_18_code
def yX6_harms : MethodName := ⟨RX6, "harms", "(I)I"⟩
abbrev cX6_addsPiece : ByteArray := prog_8_method_19_code
def yX6_addsPiece : MethodName := ⟨RX6, "addsPiece", "(III)I"⟩
abbrev cX6_addsPerson : ByteArray := prog_8_method_20_code
def yX6_addsPerson : MethodName := ⟨RX6, "addsPerson", "(III)I"⟩
abbrev cX6_piece : ByteArray := prog_8_method_21_code
def yX6_piece : MethodName := ⟨RX6, "piece", "(III)I"⟩
abbrev cX6_person : ByteArray := prog_8_method_22_code
def yX6_person : MethodName := ⟨RX6, "person", "(III)I"⟩
abbrev cX6_cost : ByteArray := prog_8_method_23_code
def yX6_cost : MethodName := ⟨RX6, "cost", "(II)I"⟩
abbrev cX6_rule : ByteArray := prog_8_method_24_code
def yX6_rule : MethodName := ⟨RX6, "rule", "(I)I"⟩
abbrev cX6_tell : ByteArray := prog_8_method_25_code
def yX6_tell : MethodName := ⟨RX6, "tell", "(III)I"⟩
abbrev cX6_piecesOf : ByteArray := prog_8_method_26_code
def yX6_piecesOf : MethodName := ⟨RX6, "piecesOf", "(I)I"⟩
abbrev cX6_pieceOf : ByteArray := prog_8_method_27_code
def yX6_pieceOf : MethodName := ⟨RX6, "pieceOf", "(II)I"⟩
abbrev cX6_personOf : ByteArray := prog_8_method_28_code
def yX6_personOf : MethodName := ⟨RX6, "personOf", "(II)I"⟩
abbrev cX6_wrong : ByteArray := prog_8_method_29_code
def yX6_wrong : MethodName := ⟨RX6, "wrong", "(I)Z"⟩
abbrev cX6_stands : ByteArray := prog_8_method_30_code
def yX6_stands : MethodName := ⟨RX6, "stands", "(I)Z"⟩
abbrev cX6_word : ByteArray := prog_8_method_31_code
def yX6_word : MethodName := ⟨RX6, "word", "()I"⟩
abbrev cX6_isDigit : ByteArray := prog_8_method_32_code
def yX6_isDigit : MethodName := ⟨RX6, "isDigit", "()Z"⟩
abbrev cX6_reads : ByteArray := prog_8_method_33_code
def yX6_reads : MethodName := ⟨RX6, "reads", "()Z"⟩
abbrev cX6_isSo : ByteArray := prog_8_method_34_code
def yX6_isSo : MethodName := ⟨RX6, "isSo", "(II)Z"⟩
abbrev cX6_item : ByteArray := prog_8_method_35_code
def yX6_item : MethodName := ⟨RX6, "item", "()Z"⟩
abbrev cX6_carries : ByteArray := prog_8_method_36_code
def yX6_carries : MethodName := ⟨RX6, "carries", "([II[IIZ)I"⟩
abbrev cX6_all : ByteArray := prog_8_method_37_code
def yX6_all : MethodName := ⟨RX6, "all", "([IZ)V"⟩
abbrev cX6_square : ByteArray := prog_8_method_38_code
def yX6_square : MethodName := ⟨RX6, "square", "(I)I"⟩
abbrev cX6_fault : ByteArray := prog_8_method_39_code
def yX6_fault : MethodName := ⟨RX6, "fault", "()I"⟩
abbrev cX6_many : ByteArray := prog_8_method_40_code
def yX6_many : MethodName := ⟨RX6, "many", "(I)I"⟩
abbrev cX6_worthOf : ByteArray := prog_8_method_41_code
def yX6_worthOf : MethodName := ⟨RX6, "worthOf", "(I)I"⟩
abbrev cX6_harmOf : ByteArray := prog_8_method_42_code
def yX6_harmOf : MethodName := ⟨RX6, "harmOf", "(I)I"⟩
abbrev cX6_tellsBest : ByteArray := prog_8_method_43_code
def yX6_tellsBest : MethodName := ⟨RX6, "tellsBest", "(I)V"⟩
abbrev cX6_greedyFor : ByteArray := prog_8_method_44_code
def yX6_greedyFor : MethodName := ⟨RX6, "greedyFor", "(I)I"⟩
abbrev cX6_changeFor : ByteArray := prog_8_method_45_code
def yX6_changeFor : MethodName := ⟨RX6, "changeFor", "(I)I"⟩
abbrev cX6_change : ByteArray := prog_8_method_46_code
def yX6_change : MethodName := ⟨RX6, "change", "(II)I"⟩
abbrev cX6_priceFor : ByteArray := prog_8_method_47_code
def yX6_priceFor : MethodName := ⟨RX6, "priceFor", "(II)I"⟩
abbrev cX6_price : ByteArray := prog_8_method_48_code
def yX6_price : MethodName := ⟨RX6, "price", "(II)I"⟩
abbrev cX6_thrown : ByteArray := prog_8_method_49_code
def yX6_thrown : MethodName := ⟨RX6, "thrown", "(II)I"⟩
abbrev cX6_tellsThrow : ByteArray := prog_8_method_50_code
def yX6_tellsThrow : MethodName := ⟨RX6, "tellsThrow", "(I)V"⟩
abbrev cX6_harm : ByteArray := prog_8_method_51_code
def yX6_harm : MethodName := ⟨RX6, "harm", "(II)I"⟩
abbrev cX6_best : ByteArray := prog_8_method_52_code
def yX6_best : MethodName := ⟨RX6, "best", "(II)I"⟩
abbrev cX6_fails : ByteArray := prog_8_method_53_code
def yX6_fails : MethodName := ⟨RX6, "fails", "(I)I"⟩
abbrev cX6_manyAmounts : ByteArray := prog_8_method_54_code
def yX6_manyAmounts : MethodName := ⟨RX6, "manyAmounts", "(Z)I"⟩
abbrev cX6_amounts : ByteArray := prog_8_method_55_code
def yX6_amounts : MethodName := ⟨RX6, "amounts", "(I)I"⟩
abbrev cX6_throwsIn : ByteArray := prog_8_method_56_code
def yX6_throwsIn : MethodName := ⟨RX6, "throwsIn", "(III)V"⟩
abbrev cX6_runs : ByteArray := prog_8_method_57_code
def yX6_runs : MethodName := ⟨RX6, "runs", "(III)V"⟩
abbrev cX6_run : ByteArray := prog_8_method_58_code
def yX6_run : MethodName := ⟨RX6, "run", "(I)I"⟩
abbrev cX6_barsOf : ByteArray := prog_8_method_59_code
def yX6_barsOf : MethodName := ⟨RX6, "barsOf", "(IIIZ)I"⟩
abbrev cX6_rules : ByteArray := prog_8_method_60_code
def yX6_rules : MethodName := ⟨RX6, "rules", "(II)I"⟩
abbrev cX6_costs : ByteArray := prog_8_method_61_code
def yX6_costs : MethodName := ⟨RX6, "costs", "(IIII)I"⟩
abbrev cX6_dearest : ByteArray := prog_8_method_62_code
def yX6_dearest : MethodName := ⟨RX6, "dearest", "()I"⟩
abbrev cX6_wanting : ByteArray := prog_8_method_63_code
def yX6_wanting : MethodName := ⟨RX6, "wanting", "(I)I"⟩
abbrev cX6_dear : ByteArray := prog_8_method_64_code
def yX6_dear : MethodName := ⟨RX6, "dear", "(I)I"⟩
abbrev cX6_rich : ByteArray := prog_8_method_65_code
def yX6_rich : MethodName := ⟨RX6, "rich", "(I)I"⟩
abbrev cX6_goes : ByteArray := prog_8_method_66_code
def yX6_goes : MethodName := ⟨RX6, "goes", "(II)I"⟩
abbrev cX6_judge : ByteArray := prog_8_method_67_code
def yX6_judge : MethodName := ⟨RX6, "judge", "(II)I"⟩
abbrev cX6_behind : ByteArray := prog_8_method_68_code
def yX6_behind : MethodName := ⟨RX6, "behind", "(III)I"⟩
abbrev cX6_done : ByteArray := prog_8_method_69_code
def yX6_done : MethodName := ⟨RX6, "done", "(II)I"⟩
abbrev cX6_cast : ByteArray := prog_8_method_70_code
def yX6_cast : MethodName := ⟨RX6, "cast", "(II)I"⟩
abbrev cX6_back : ByteArray := prog_8_method_71_code
def yX6_back : MethodName := ⟨RX6, "back", "(I)I"⟩
abbrev cX6_draw : ByteArray := prog_8_method_72_code
def yX6_draw : MethodName := ⟨RX6, "draw", "(I)I"⟩
abbrev cX6_day : ByteArray := prog_8_method_73_code
def yX6_day : MethodName := ⟨RX6, "day", "()V"⟩
abbrev cX6_allGranted : ByteArray := prog_8_method_74_code
def yX6_allGranted : MethodName := ⟨RX6, "allGranted", "()I"⟩
abbrev cX6_days : ByteArray := prog_8_method_75_code
def yX6_days : MethodName := ⟨RX6, "days", "(I)I"⟩
abbrev cX6_seed : ByteArray := prog_8_method_76_code
def yX6_seed : MethodName := ⟨RX6, "seed", "(I)I"⟩
abbrev cX6_body : ByteArray := prog_8_method_77_code
def yX6_body : MethodName := ⟨RX6, "body", "(I)V"⟩
abbrev cX6_falling : ByteArray := prog_8_method_78_code
def yX6_falling : MethodName := ⟨RX6, "falling", "(II)I"⟩
abbrev cX6_ringing : ByteArray := prog_8_method_79_code
def yX6_ringing : MethodName := ⟨RX6, "ringing", "(II)I"⟩
abbrev cX6_sinking : ByteArray := prog_8_method_80_code
def yX6_sinking : MethodName := ⟨RX6, "sinking", "(II)I"⟩
abbrev cX6_act : ByteArray := prog_8_method_81_code
def yX6_act : MethodName := ⟨RX6, "act", "(III)I"⟩
abbrev cX6_trace : ByteArray := prog_8_method_82_code
def yX6_trace : MethodName := ⟨RX6, "trace", "(I)I"⟩
abbrev cX6_image : ByteArray := prog_8_method_83_code
def yX6_image : MethodName := ⟨RX6, "image", "()I"⟩
abbrev cX6_restore : ByteArray := prog_8_method_84_code
def yX6_restore : MethodName := ⟨RX6, "restore", "()I"⟩
abbrev cX6_status : ByteArray := prog_8_method_85_code
def yX6_status : MethodName := ⟨RX6, "status", "(I)I"⟩
def RJx145de : String := "java/io/Serializable"
def TJx145de : u_T := fun k => match k with
  | _ => ("", "", "", false)
def tyJx145de : Nat → FieldType := fun k => match k with
  | _ => .int
abbrev wsJx145de0 : List Cond := u_ws RJx145de TJx145de 0
theorem nmJx145de : ∀ a, a < 0 → ∀ b, b < 0 → a ≠ b → (TJx145de a).2.1 ≠ (TJx145de b).2.1 := by decide +kernel
theorem tyJx145de_ok : ∀ k, k < 0 → parseFieldDescriptor (TJx145de k).2.2.1 = some (tyJx145de k) := by decide +kernel
def RJx9f9b0 : String := "java/lang/CharSequence"
def TJx9f9b0 : u_T := fun k => match k with
  | _ => ("", "", "", false)
def tyJx9f9b0 : Nat → FieldType := fun k => match k with
  | _ => .int
abbrev wsJx9f9b00 : List Cond := u_ws RJx9f9b0 TJx9f9b0 0
theorem nmJx9f9b0 : ∀ a, a < 0 → ∀ b, b < 0 → a ≠ b → (TJx9f9b0 a).2.1 ≠ (TJx9f9b0 b).2.1 := by decide +kernel
theorem tyJx9f9b0_ok : ∀ k, k < 0 → parseFieldDescriptor (TJx9f9b0 k).2.2.1 = some (tyJx9f9b0 k) := by decide +kernel
def RJxb160c : String := "java/lang/Comparable"
def TJxb160c : u_T := fun k => match k with
  | _ => ("", "", "", false)
def tyJxb160c : Nat → FieldType := fun k => match k with
  | _ => .int
abbrev wsJxb160c0 : List Cond := u_ws RJxb160c TJxb160c 0
theorem nmJxb160c : ∀ a, a < 0 → ∀ b, b < 0 → a ≠ b → (TJxb160c a).2.1 ≠ (TJxb160c b).2.1 := by decide +kernel
theorem tyJxb160c_ok : ∀ k, k < 0 → parseFieldDescriptor (TJxb160c k).2.2.1 = some (tyJxb160c k) := by decide +kernel
def RJ6 : String := "java/lang/Integer"
def TJ6 : u_T := fun k => match k with
  | _ => ("", "", "", false)
def tyJ6 : Nat → FieldType := fun k => match k with
  | _ => .int
abbrev wsJ60 : List Cond := u_ws RJ6 TJ6 0
theorem nmJ6 : ∀ a, a < 0 → ∀ b, b < 0 → a ≠ b → (TJ6 a).2.1 ≠ (TJ6 b).2.1 := by decide +kernel
theorem tyJ6_ok : ∀ k, k < 0 → parseFieldDescriptor (TJ6 k).2.2.1 = some (tyJ6 k) := by decide +kernel
abbrev cJ6_bitCount_0f7a4 : ByteArray := prog_9_method_49_code
def yJ6_bitCount_0f7a4 : MethodName := ⟨RJ6, "bitCount", "(I)I"⟩
def RJ9 : String := "java/lang/Math"
def TJ9 : u_T := fun k => match k with
  | _ => ("", "", "", false)
def tyJ9 : Nat → FieldType := fun k => match k with
  | _ => .int
abbrev wsJ90 : List Cond := u_ws RJ9 TJ9 0
theorem nmJ9 : ∀ a, a < 0 → ∀ b, b < 0 → a ≠ b → (TJ9 a).2.1 ≠ (TJ9 b).2.1 := by decide +kernel
theorem tyJ9_ok : ∀ k, k < 0 → parseFieldDescriptor (TJ9 k).2.2.1 = some (tyJ9 k) := by decide +kernel
abbrev cJ9_max_7cf53 : ByteArray := prog_10_method_65_code
def yJ9_max_7cf53 : MethodName := ⟨RJ9, "max", "(II)I"⟩
abbrev cJ9_min_7cf53 : ByteArray := prog_10_method_69_code
def yJ9_min_7cf53 : MethodName := ⟨RJ9, "min", "(II)I"⟩
def RJ0 : String := "java/lang/String"
def TJ0 : u_T := fun k => match k with
  | _ => ("", "", "", false)
def tyJ0 : Nat → FieldType := fun k => match k with
  | _ => .int
abbrev wsJ00 : List Cond := u_ws RJ0 TJ0 0
theorem nmJ0 : ∀ a, a < 0 → ∀ b, b < 0 → a ≠ b → (TJ0 a).2.1 ≠ (TJ0 b).2.1 := by decide +kernel
theorem tyJ0_ok : ∀ k, k < 0 → parseFieldDescriptor (TJ0 k).2.2.1 = some (tyJ0 k) := by decide +kernel
abbrev cJ0_length_8abf5 : ByteArray := prog_11_method_54_code
def yJ0_length_8abf5 : MethodName := ⟨RJ0, "length", "()I"⟩
abbrev cJ0_charAt_5068e : ByteArray := prog_11_method_56_code
def yJ0_charAt_5068e : MethodName := ⟨RJ0, "charAt", "(I)C"⟩
abbrev cJ0_coder_7d493 : ByteArray := prog_11_method_152_code
def yJ0_coder_7d493 : MethodName := ⟨RJ0, "coder", "()B"⟩
abbrev cJ0_isLatin1_aae02 : ByteArray := prog_11_method_154_code
def yJ0_isLatin1_aae02 : MethodName := ⟨RJ0, "isLatin1", "()Z"⟩
abbrev cJ0_checkIndex_df160 : ByteArray := prog_11_method_155_code
def yJ0_checkIndex_df160 : MethodName := ⟨RJ0, "checkIndex", "(II)V"⟩
def RJ1 : String := "java/lang/StringLatin1"
def TJ1 : u_T := fun k => match k with
  | _ => ("", "", "", false)
def tyJ1 : Nat → FieldType := fun k => match k with
  | _ => .int
abbrev wsJ10 : List Cond := u_ws RJ1 TJ1 0
theorem nmJ1 : ∀ a, a < 0 → ∀ b, b < 0 → a ≠ b → (TJ1 a).2.1 ≠ (TJ1 b).2.1 := by decide +kernel
theorem tyJ1_ok : ∀ k, k < 0 → parseFieldDescriptor (TJ1 k).2.2.1 = some (tyJ1 k) := by decide +kernel
abbrev cJ1_charAt_3b067 : ByteArray := prog_12_method_2_code
def yJ1_charAt_3b067 : MethodName := ⟨RJ1, "charAt", "([BI)C"⟩
def RJ2 : String := "java/lang/StringUTF16"
def TJ2 : u_T := fun k => match k with
  | _ => ("", "", "", false)
def tyJ2 : Nat → FieldType := fun k => match k with
  | _ => .int
abbrev wsJ20 : List Cond := u_ws RJ2 TJ2 0
theorem nmJ2 : ∀ a, a < 0 → ∀ b, b < 0 → a ≠ b → (TJ2 a).2.1 ≠ (TJ2 b).2.1 := by decide +kernel
theorem tyJ2_ok : ∀ k, k < 0 → parseFieldDescriptor (TJ2 k).2.2.1 = some (tyJ2 k) := by decide +kernel
abbrev cJ2_getChar_3b067 : ByteArray := prog_13_method_5_code
def yJ2_getChar_3b067 : MethodName := ⟨RJ2, "getChar", "([BI)C"⟩
abbrev cJ2_length_9d52b : ByteArray := prog_13_method_6_code
def yJ2_length_9d52b : MethodName := ⟨RJ2, "length", "([B)I"⟩
abbrev cJ2_charAt_3b067 : ByteArray := prog_13_method_83_code
def yJ2_charAt_3b067 : MethodName := ⟨RJ2, "charAt", "([BI)C"⟩
abbrev cJ2_checkIndex_2214a : ByteArray := prog_13_method_91_code
def yJ2_checkIndex_2214a : MethodName := ⟨RJ2, "checkIndex", "(I[B)V"⟩
def RJ10 : String := "java/lang/System"
def TJ10 : u_T := fun k => match k with
  | _ => ("", "", "", false)
def tyJ10 : Nat → FieldType := fun k => match k with
  | _ => .int
abbrev wsJ100 : List Cond := u_ws RJ10 TJ10 0
theorem nmJ10 : ∀ a, a < 0 → ∀ b, b < 0 → a ≠ b → (TJ10 a).2.1 ≠ (TJ10 b).2.1 := by decide +kernel
theorem tyJ10_ok : ∀ k, k < 0 → parseFieldDescriptor (TJ10 k).2.2.1 = some (tyJ10 k) := by decide +kernel
def RJxfd54e : String := "java/lang/constant/Constable"
def TJxfd54e : u_T := fun k => match k with
  | _ => ("", "", "", false)
def tyJxfd54e : Nat → FieldType := fun k => match k with
  | _ => .int
abbrev wsJxfd54e0 : List Cond := u_ws RJxfd54e TJxfd54e 0
theorem nmJxfd54e : ∀ a, a < 0 → ∀ b, b < 0 → a ≠ b → (TJxfd54e a).2.1 ≠ (TJxfd54e b).2.1 := by decide +kernel
theorem tyJxfd54e_ok : ∀ k, k < 0 → parseFieldDescriptor (TJxfd54e k).2.2.1 = some (tyJxfd54e k) := by decide +kernel
def RJx3cf43 : String := "java/lang/constant/ConstantDesc"
def TJx3cf43 : u_T := fun k => match k with
  | _ => ("", "", "", false)
def tyJx3cf43 : Nat → FieldType := fun k => match k with
  | _ => .int
abbrev wsJx3cf430 : List Cond := u_ws RJx3cf43 TJx3cf43 0
theorem nmJx3cf43 : ∀ a, a < 0 → ∀ b, b < 0 → a ≠ b → (TJx3cf43 a).2.1 ≠ (TJx3cf43 b).2.1 := by decide +kernel
theorem tyJx3cf43_ok : ∀ k, k < 0 → parseFieldDescriptor (TJx3cf43 k).2.2.1 = some (tyJx3cf43 k) := by decide +kernel
def RJ7 : String := "java/util/Arrays"
def TJ7 : u_T := fun k => match k with
  | _ => ("", "", "", false)
def tyJ7 : Nat → FieldType := fun k => match k with
  | _ => .int
abbrev wsJ70 : List Cond := u_ws RJ7 TJ7 0
theorem nmJ7 : ∀ a, a < 0 → ∀ b, b < 0 → a ≠ b → (TJ7 a).2.1 ≠ (TJ7 b).2.1 := by decide +kernel
theorem tyJ7_ok : ∀ k, k < 0 → parseFieldDescriptor (TJ7 k).2.2.1 = some (tyJ7 k) := by decide +kernel
abbrev cJ7_fill_d0a16 : ByteArray := prog_15_method_101_code
def yJ7_fill_d0a16 : MethodName := ⟨RJ7, "fill", "([JJ)V"⟩
abbrev cJ7_fill_53178 : ByteArray := prog_15_method_103_code
def yJ7_fill_53178 : MethodName := ⟨RJ7, "fill", "([II)V"⟩
def RJ3 : String := "jdk/internal/util/Preconditions"
def TJ3 : u_T := fun k => match k with
  | _ => ("", "", "", false)
def tyJ3 : Nat → FieldType := fun k => match k with
  | _ => .int
abbrev wsJ30 : List Cond := u_ws RJ3 TJ3 0
theorem nmJ3 : ∀ a, a < 0 → ∀ b, b < 0 → a ≠ b → (TJ3 a).2.1 ≠ (TJ3 b).2.1 := by decide +kernel
theorem tyJ3_ok : ∀ k, k < 0 → parseFieldDescriptor (TJ3 k).2.2.1 = some (tyJ3 k) := by decide +kernel
abbrev cJ3_checkIndex_8e157 : ByteArray := prog_16_method_11_code
def yJ3_checkIndex_8e157 : MethodName := ⟨RJ3, "checkIndex", "(IILjava/util/function/BiFunction;)I"⟩
def RL : String := "FountainGivesChangeLaw"
abbrev cL_law : ByteArray := code
def yL_law : MethodName := ⟨RL, "law", "([I)Z"⟩
abbrev vwCl : List vw_C := [(RX0, TX0, 1), (RX1, TX1, 5), (RX2, TX2, 6), (RX3, TX3, 3), (RX4, TX4, 15), (RX5, TX5, 10), (RX6, TX6, 49)]
end
section
/-! the methods, as the machine of worlds reads them; by program (wip/tools/tables.py) -/
def mX0_init : ab_D := (yX0_init, cX0_init, 1, none, 0, 0, true, [
  [some (.aload_n 0, 1, (0, 99999, 0), []), some (.invokespecial 5, 3, (6, 99999, 0), [1107, 1022, 1023]), none, none, some (.aload_n 0, 1, (0, 99999, 0), []), some (.bipush 100, 2, (0, 99999, 0), []), none, some (.newarray .int, 2, (0, 99999, 0), [1099]), none, some (.putfield 13, 3, (1, 0, 0), [1108]), none, none, some (.return_, 1, (0, 99999, 0), [])]])
def mX0_bitsBy : ab_D := (yX0_bitsBy, cX0_bitsBy, 4, some .int, 0, 3, false, [
  [some (.iload_n 2, 1, (0, 99999, 0), []), some (.iconst 1, 1, (0, 99999, 0), []), some (.if_icmp .ne 9, 3, (0, 99999, 0), []), none, none, some (.aload_n 1, 1, (0, 99999, 0), []), some (.iload_n 3, 1, (0, 99999, 0), []), some (.invokevirtual 17, 3, (3, 69, 1), [3090, 3091, 3092, 1002]), none, none, some (.ireturn, 1, (0, 99999, 0), []), some (.aload_n 0, 1, (0, 99999, 0), []), some (.aload_n 1, 1, (0, 99999, 0), []), some (.aload_n 1, 1, (0, 99999, 0), []), some (.invokevirtual 21, 3, (3, 63, 0), [3107, 3095, 3096, 1002]), none],
  [none, some (.invokevirtual 25, 3, (3, 2, 2), [3108, 3109, 3110, 1003]), none, none, some (.aload_n 0, 1, (0, 99999, 0), []), some (.iload_n 3, 1, (0, 99999, 0), []), some (.invokevirtual 29, 3, (3, 4, 1), [3123, 3124, 3125, 1003]), none, none, some (.ireturn, 1, (0, 99999, 0), [])]])
def mX0_weigh : ab_D := (yX0_weigh, cX0_weigh, 5, none, 0, 2, false, [
  [some (.aload_n 0, 1, (0, 99999, 0), []), some (.getfield 13, 3, (1, 0, 0), [1108]), none, none, some (.iconst (-1), 1, (0, 99999, 0), []), some (.invokestatic 32, 3, (4, 215, 2), [3112, 3113, 1008]), none, none, some (.aload_n 0, 1, (0, 99999, 0), []), some (.getfield 13, 3, (1, 0, 0), [1108]), none, none, some (.iconst 0, 1, (0, 99999, 0), []), some (.iconst 0, 1, (0, 99999, 0), []), some (.iastore, 1, (0, 99999, 0), []), some (.iconst 0, 1, (0, 99999, 0), [])],
  [some (.istore_n 3, 1, (0, 99999, 0), []), some (.iload_n 3, 1, (0, 99999, 0), []), some (.aload_n 1, 1, (0, 99999, 0), []), some (.getfield 38, 3, (1, 4, 9), [1053]), none, none, some (.if_icmp .ge 46, 3, (0, 99999, 0), []), none, none, some (.iload_n 2, 1, (0, 99999, 0), []), some (.iload_n 3, 1, (0, 99999, 0), []), some (.invokestatic 42, 3, (4, 49, 2), [3115, 3105, 1002]), none, none, some (.ifCond .eq 32, 3, (0, 99999, 0), []), none],
  [none, some (.ldc 46, 2, (10, 1048576, 0), [3116]), none, some (.aload_n 1, 1, (0, 99999, 0), []), some (.iload_n 3, 1, (0, 99999, 0), []), some (.invokevirtual 47, 3, (3, 59, 1), [3117, 2083, 2084, 1002]), none, none, some (.sipush 1024, 3, (0, 99999, 0), []), none, none, some (.imul, 1, (0, 99999, 0), []), some (.iadd, 1, (0, 99999, 0), []), some (.iconst 1, 1, (0, 99999, 0), []), some (.iload_n 3, 1, (0, 99999, 0), []), some (.ishl, 1, (0, 99999, 0), [])],
  [some (.iadd, 1, (0, 99999, 0), []), some (.istore 4, 2, (0, 99999, 0), []), none, some (.aload_n 0, 1, (0, 99999, 0), []), some (.aload_n 1, 1, (0, 99999, 0), []), some (.iload_n 3, 1, (0, 99999, 0), []), some (.invokevirtual 50, 3, (3, 58, 1), [3118, 2087, 2088, 1002]), none, none, some (.iload 4, 2, (0, 99999, 0), []), none, some (.invokevirtual 53, 3, (3, 3, 2), [3119, 3121, 18, 1003]), none, none, some (.iinc 3 1, 3, (0, 99999, 0), []), none],
  [none, some (.goto (-48), 3, (0, 99999, 0), []), none, none, some (.return_, 1, (0, 99999, 0), [])]])
def mX0_putIn : ab_D := (yX0_putIn, cX0_putIn, 5, none, 0, 2, false, [
  [some (.bipush 99, 2, (0, 99999, 0), []), none, some (.istore_n 3, 1, (0, 99999, 0), []), some (.iload_n 3, 1, (0, 99999, 0), []), some (.iload_n 1, 1, (0, 99999, 0), []), some (.if_icmp .lt 58, 3, (0, 99999, 0), []), none, none, some (.aload_n 0, 1, (0, 99999, 0), []), some (.getfield 13, 3, (1, 0, 0), [1108]), none, none, some (.iload_n 3, 1, (0, 99999, 0), []), some (.iload_n 1, 1, (0, 99999, 0), []), some (.isub, 1, (0, 99999, 0), []), some (.iaload, 1, (0, 99999, 0), [])],
  [some (.istore 4, 2, (0, 99999, 0), []), none, some (.iload 4, 2, (0, 99999, 0), []), none, some (.iconst (-1), 1, (0, 99999, 0), []), some (.if_icmp .eq 36, 3, (0, 99999, 0), []), none, none, some (.aload_n 0, 1, (0, 99999, 0), []), some (.getfield 13, 3, (1, 0, 0), [1108]), none, none, some (.iload_n 3, 1, (0, 99999, 0), []), some (.iaload, 1, (0, 99999, 0), []), some (.iconst (-1), 1, (0, 99999, 0), []), some (.if_icmp .eq 16, 3, (0, 99999, 0), [])],
  [none, none, some (.iload 4, 2, (0, 99999, 0), []), none, some (.iload_n 2, 1, (0, 99999, 0), []), some (.iadd, 1, (0, 99999, 0), []), some (.aload_n 0, 1, (0, 99999, 0), []), some (.getfield 13, 3, (1, 0, 0), [1108]), none, none, some (.iload_n 3, 1, (0, 99999, 0), []), some (.iaload, 1, (0, 99999, 0), []), some (.if_icmp .ge 13, 3, (0, 99999, 0), []), none, none, some (.aload_n 0, 1, (0, 99999, 0), [])],
  [some (.getfield 13, 3, (1, 0, 0), [1108]), none, none, some (.iload_n 3, 1, (0, 99999, 0), []), some (.iload 4, 2, (0, 99999, 0), []), none, some (.iload_n 2, 1, (0, 99999, 0), []), some (.iadd, 1, (0, 99999, 0), []), some (.iastore, 1, (0, 99999, 0), []), some (.iinc 3 (-1), 3, (0, 99999, 0), []), none, none, some (.goto (-57), 3, (0, 99999, 0), []), none, none, some (.return_, 1, (0, 99999, 0), [])]])
def mX0_fewestFor : ab_D := (yX0_fewestFor, cX0_fewestFor, 2, some .int, 0, 1, false, [
  [some (.iload_n 1, 1, (0, 99999, 0), []), some (.invokestatic 57, 3, (4, 48, 1), [3127, 3084, 1002]), none, none, some (.ifCond .eq 13, 3, (0, 99999, 0), []), none, none, some (.aload_n 0, 1, (0, 99999, 0), []), some (.getfield 13, 3, (1, 0, 0), [1108]), none, none, some (.iload_n 1, 1, (0, 99999, 0), []), some (.iaload, 1, (0, 99999, 0), []), some (.iconst (-1), 1, (0, 99999, 0), []), some (.if_icmp .ne 5, 3, (0, 99999, 0), []), none],
  [none, some (.iconst (-1), 1, (0, 99999, 0), []), some (.ireturn, 1, (0, 99999, 0), []), some (.aload_n 0, 1, (0, 99999, 0), []), some (.getfield 13, 3, (1, 0, 0), [1108]), none, none, some (.iload_n 1, 1, (0, 99999, 0), []), some (.iaload, 1, (0, 99999, 0), []), some (.sipush 1023, 3, (0, 99999, 0), []), none, none, some (.iand, 1, (0, 99999, 0), []), some (.ireturn, 1, (0, 99999, 0), [])]])
def mX0_amountsOf : ab_D := (yX0_amountsOf, cX0_amountsOf, 5, some .int, 0, 2, false, [
  [some (.aload_n 0, 1, (0, 99999, 0), []), some (.aload_n 1, 1, (0, 99999, 0), []), some (.iload_n 2, 1, (0, 99999, 0), []), some (.invokevirtual 25, 3, (3, 2, 2), [3108, 3109, 3110, 1003]), none, none, some (.iconst 0, 1, (0, 99999, 0), []), some (.istore_n 3, 1, (0, 99999, 0), []), some (.iconst 1, 1, (0, 99999, 0), []), some (.istore 4, 2, (0, 99999, 0), []), none, some (.iload 4, 2, (0, 99999, 0), []), none, some (.bipush 100, 2, (0, 99999, 0), []), none, some (.if_icmp .ge 28, 3, (0, 99999, 0), [])],
  [none, none, some (.iload_n 3, 1, (0, 99999, 0), []), some (.aload_n 0, 1, (0, 99999, 0), []), some (.getfield 13, 3, (1, 0, 0), [1108]), none, none, some (.iload 4, 2, (0, 99999, 0), []), none, some (.iaload, 1, (0, 99999, 0), []), some (.iconst (-1), 1, (0, 99999, 0), []), some (.if_icmp .ne 7, 3, (0, 99999, 0), []), none, none, some (.iconst 0, 1, (0, 99999, 0), []), some (.goto 4, 3, (0, 99999, 0), [])],
  [none, none, some (.iconst 1, 1, (0, 99999, 0), []), some (.iadd, 1, (0, 99999, 0), []), some (.istore_n 3, 1, (0, 99999, 0), []), some (.iinc 4 1, 3, (0, 99999, 0), []), none, none, some (.goto (-29), 3, (0, 99999, 0), []), none, none, some (.iload_n 3, 1, (0, 99999, 0), []), some (.ireturn, 1, (0, 99999, 0), [])]])
def mX1_init : ab_D := (yX1_init, cX1_init, 1, none, 1, 0, true, [
  [some (.aload_n 0, 1, (0, 99999, 0), []), some (.invokespecial 3, 3, (6, 99999, 0), [1146, 1022, 1023]), none, none, some (.aload_n 0, 1, (0, 99999, 0), []), some (.bipush 20, 2, (0, 99999, 0), []), none, some (.newarray .int, 2, (0, 99999, 0), [1099]), none, some (.putfield 11, 3, (1, 1, 0), [1147]), none, none, some (.aload_n 0, 1, (0, 99999, 0), []), some (.iconst 0, 1, (0, 99999, 0), []), some (.putfield 15, 3, (1, 1, 1), [1148]), none],
  [none, some (.aload_n 0, 1, (0, 99999, 0), []), some (.iconst 0, 1, (0, 99999, 0), []), some (.putfield 19, 3, (1, 1, 2), [1150]), none, none, some (.aload_n 0, 1, (0, 99999, 0), []), some (.iconst 0, 1, (0, 99999, 0), []), some (.putfield 22, 3, (1, 1, 3), [1151]), none, none, some (.aload_n 0, 1, (0, 99999, 0), []), some (.iconst 0, 1, (0, 99999, 0), []), some (.putfield 25, 3, (1, 1, 4), [1152]), none, none],
  [some (.return_, 1, (0, 99999, 0), [])]])
def mX1_bodyAt : ab_D := (yX1_bodyAt, cX1_bodyAt, 2, some .int, 1, 1, false, [
  [some (.iload_n 1, 1, (0, 99999, 0), []), some (.ifCond .lt 26, 3, (0, 99999, 0), []), none, none, some (.iload_n 1, 1, (0, 99999, 0), []), some (.aload_n 0, 1, (0, 99999, 0), []), some (.getfield 15, 3, (1, 1, 1), [1148]), none, none, some (.if_icmp .ge 18, 3, (0, 99999, 0), []), none, none, some (.iload_n 1, 1, (0, 99999, 0), []), some (.bipush 20, 2, (0, 99999, 0), []), none, some (.if_icmp .ge 12, 3, (0, 99999, 0), [])],
  [none, none, some (.aload_n 0, 1, (0, 99999, 0), []), some (.getfield 11, 3, (1, 1, 0), [1147]), none, none, some (.iload_n 1, 1, (0, 99999, 0), []), some (.iaload, 1, (0, 99999, 0), []), some (.goto 4, 3, (0, 99999, 0), []), none, none, some (.iconst (-1), 1, (0, 99999, 0), []), some (.ireturn, 1, (0, 99999, 0), [])]])
def mX1_answer : ab_D := (yX1_answer, cX1_answer, 5, some .int, 1, 4, false, [
  [some (.aload_n 0, 1, (0, 99999, 0), []), some (.iconst 0, 1, (0, 99999, 0), []), some (.putfield 15, 3, (1, 1, 1), [1148]), none, none, some (.iload_n 3, 1, (0, 99999, 0), []), some (.ifCond .lt 16, 3, (0, 99999, 0), []), none, none, some (.iload_n 3, 1, (0, 99999, 0), []), some (.iconst 3, 1, (0, 99999, 0), []), some (.if_icmp .ge 11, 3, (0, 99999, 0), []), none, none, some (.aload_n 1, 1, (0, 99999, 0), []), some (.iload_n 2, 1, (0, 99999, 0), [])],
  [some (.invokevirtual 28, 3, (3, 50, 1), [4053, 2057, 2058, 1002]), none, none, some (.ifCond .ne 5, 3, (0, 99999, 0), []), none, none, some (.iconst 0, 1, (0, 99999, 0), []), some (.ireturn, 1, (0, 99999, 0), []), some (.aload_n 0, 1, (0, 99999, 0), []), some (.iload_n 2, 1, (0, 99999, 0), []), some (.putfield 19, 3, (1, 1, 2), [1150]), none, none, some (.aload_n 0, 1, (0, 99999, 0), []), some (.aload_n 1, 1, (0, 99999, 0), []), some (.getfield 34, 3, (1, 4, 0), [1031])],
  [none, none, some (.iload_n 2, 1, (0, 99999, 0), []), some (.iaload, 1, (0, 99999, 0), []), some (.putfield 22, 3, (1, 1, 3), [1151]), none, none, some (.aload_n 0, 1, (0, 99999, 0), []), some (.aload_n 1, 1, (0, 99999, 0), []), some (.getfield 36, 3, (1, 4, 1), [1034]), none, none, some (.iload_n 2, 1, (0, 99999, 0), []), some (.iaload, 1, (0, 99999, 0), []), some (.putfield 25, 3, (1, 1, 4), [1152]), none],
  [none, some (.aload_n 0, 1, (0, 99999, 0), []), some (.aload_n 0, 1, (0, 99999, 0), []), some (.getfield 22, 3, (1, 1, 3), [1151]), none, none, some (.iload_n 3, 1, (0, 99999, 0), []), some (.iload 4, 2, (0, 99999, 0), []), none, some (.iconst 0, 1, (0, 99999, 0), []), some (.invokestatic 38, 3, (4, 12, 5), [4054, 4055, 1005]), none, none, some (.ireturn, 1, (0, 99999, 0), [])]])
def mX1_begin : ab_D := (yX1_begin, cX1_begin, 2, none, 1, 1, false, [
  [some (.aload_n 0, 1, (0, 99999, 0), []), some (.getfield 15, 3, (1, 1, 1), [1148]), none, none, some (.bipush 20, 2, (0, 99999, 0), []), none, some (.if_icmp .ge 13, 3, (0, 99999, 0), []), none, none, some (.aload_n 0, 1, (0, 99999, 0), []), some (.getfield 11, 3, (1, 1, 0), [1147]), none, none, some (.aload_n 0, 1, (0, 99999, 0), []), some (.getfield 15, 3, (1, 1, 1), [1148]), none],
  [none, some (.iload_n 1, 1, (0, 99999, 0), []), some (.iastore, 1, (0, 99999, 0), []), some (.aload_n 0, 1, (0, 99999, 0), []), some (.dup, 1, (0, 99999, 0), []), some (.getfield 15, 3, (1, 1, 1), [1148]), none, none, some (.iconst 1, 1, (0, 99999, 0), []), some (.iadd, 1, (0, 99999, 0), []), some (.putfield 15, 3, (1, 1, 1), [1148]), none, none, some (.return_, 1, (0, 99999, 0), [])]])
def mX1_bodyOf : ab_D := (yX1_bodyOf, cX1_bodyOf, 2, some .int, 1, 2, false, [
  [some (.getstatic 42, 3, (13, 1, 0), [4064]), none, none, some (.iload_n 1, 1, (0, 99999, 0), []), some (.bipush 7, 2, (0, 99999, 0), []), none, some (.imul, 1, (0, 99999, 0), []), some (.iload_n 0, 1, (0, 99999, 0), []), some (.iadd, 1, (0, 99999, 0), []), some (.iaload, 1, (0, 99999, 0), []), some (.ireturn, 1, (0, 99999, 0), [])]])
def mX1_kindWithBody : ab_D := (yX1_kindWithBody, cX1_kindWithBody, 4, some .int, 1, 2, false, [
  [some (.iload_n 0, 1, (0, 99999, 0), []), some (.istore_n 2, 1, (0, 99999, 0), []), some (.iconst 0, 1, (0, 99999, 0), []), some (.istore_n 3, 1, (0, 99999, 0), []), some (.iload_n 3, 1, (0, 99999, 0), []), some (.bipush 7, 2, (0, 99999, 0), []), none, some (.if_icmp .ge 27, 3, (0, 99999, 0), []), none, none, some (.iload_n 2, 1, (0, 99999, 0), []), some (.ifCond .le 23, 3, (0, 99999, 0), []), none, none, some (.iload_n 2, 1, (0, 99999, 0), []), some (.iload_n 1, 1, (0, 99999, 0), [])],
  [some (.invokestatic 45, 3, (4, 10, 2), [4061, 4062, 1005]), none, none, some (.ifCond .ne 15, 3, (0, 99999, 0), []), none, none, some (.getstatic 49, 3, (13, 0, 0), [4066]), none, none, some (.iload_n 2, 1, (0, 99999, 0), []), some (.iaload, 1, (0, 99999, 0), []), some (.istore_n 2, 1, (0, 99999, 0), []), some (.iinc 3 1, 3, (0, 99999, 0), []), none, none, some (.goto (-27), 3, (0, 99999, 0), [])],
  [none, none, some (.iload_n 2, 1, (0, 99999, 0), []), some (.ireturn, 1, (0, 99999, 0), [])]])
def mX1_answerFrom : ab_D := (yX1_answerFrom, cX1_answerFrom, 9, some .int, 1, 5, false, [
  [some (.iload 4, 2, (0, 99999, 0), []), none, some (.bipush 20, 2, (0, 99999, 0), []), none, some (.if_icmp .gt 10, 3, (0, 99999, 0), []), none, none, some (.iload_n 1, 1, (0, 99999, 0), []), some (.invokestatic 52, 3, (4, 46, 1), [4057, 2073, 1002]), none, none, some (.ifCond .ne 5, 3, (0, 99999, 0), []), none, none, some (.iconst 0, 1, (0, 99999, 0), []), some (.ireturn, 1, (0, 99999, 0), [])],
  [some (.iload_n 1, 1, (0, 99999, 0), []), some (.iload_n 2, 1, (0, 99999, 0), []), some (.invokestatic 55, 3, (4, 11, 2), [4058, 4059, 1005]), none, none, some (.istore 5, 2, (0, 99999, 0), []), none, some (.getstatic 49, 3, (13, 0, 0), [4066]), none, none, some (.iload 5, 2, (0, 99999, 0), []), none, some (.iaload, 1, (0, 99999, 0), []), some (.istore 6, 2, (0, 99999, 0), []), none, some (.iload 5, 2, (0, 99999, 0), [])],
  [none, some (.iload_n 2, 1, (0, 99999, 0), []), some (.invokestatic 45, 3, (4, 10, 2), [4061, 4062, 1005]), none, none, some (.istore 7, 2, (0, 99999, 0), []), none, some (.iload 4, 2, (0, 99999, 0), []), none, some (.iconst 1, 1, (0, 99999, 0), []), some (.iadd, 1, (0, 99999, 0), []), some (.istore 8, 2, (0, 99999, 0), []), none, some (.aload_n 0, 1, (0, 99999, 0), []), some (.iload 7, 2, (0, 99999, 0), []), none],
  [some (.invokevirtual 58, 3, (3, 9, 1), [4067, 4069, 27, 1005]), none, none, some (.iload 7, 2, (0, 99999, 0), []), none, some (.lookupswitch 240 #[(10, 91), (11, 98), (12, 113), (20, 144), (30, 160), (40, 173), (50, 186), (51, 198), (60, 214), (70, 227)], 91, (0, 99999, 0), []), none, none, none, none, none, none, none, none, none, none],
  [none, none, none, none, none, none, none, none, none, none, none, none, none, none, none, none],
  [none, none, none, none, none, none, none, none, none, none, none, none, none, none, none, none],
  [none, none, none, none, none, none, none, none, none, none, none, none, none, none, none, none],
  [none, none, none, none, none, none, none, none, none, none, none, none, none, none, none, none],
  [none, none, none, none, none, none, none, none, none, none, none, none, none, none, none, none],
  [some (.iload_n 3, 1, (0, 99999, 0), []), some (.aload_n 0, 1, (0, 99999, 0), []), some (.getfield 19, 3, (1, 1, 2), [1150]), none, none, some (.iadd, 1, (0, 99999, 0), []), some (.ireturn, 1, (0, 99999, 0), []), some (.aload_n 0, 1, (0, 99999, 0), []), some (.aload_n 0, 1, (0, 99999, 0), []), some (.getfield 22, 3, (1, 1, 3), [1151]), none, none, some (.iconst 0, 1, (0, 99999, 0), []), some (.iload_n 3, 1, (0, 99999, 0), []), some (.iload 8, 2, (0, 99999, 0), []), none],
  [some (.invokestatic 38, 3, (4, 12, 5), [4054, 4055, 1005]), none, none, some (.iconst 2, 1, (0, 99999, 0), []), some (.imul, 1, (0, 99999, 0), []), some (.ireturn, 1, (0, 99999, 0), []), some (.aload_n 0, 1, (0, 99999, 0), []), some (.aload_n 0, 1, (0, 99999, 0), []), some (.getfield 22, 3, (1, 1, 3), [1151]), none, none, some (.iconst 1, 1, (0, 99999, 0), []), some (.iload_n 3, 1, (0, 99999, 0), []), some (.iload 8, 2, (0, 99999, 0), []), none, some (.invokestatic 38, 3, (4, 12, 5), [4054, 4055, 1005])],
  [none, none, some (.aload_n 0, 1, (0, 99999, 0), []), some (.aload_n 0, 1, (0, 99999, 0), []), some (.getfield 22, 3, (1, 1, 3), [1151]), none, none, some (.iconst 0, 1, (0, 99999, 0), []), some (.iload_n 3, 1, (0, 99999, 0), []), some (.aload_n 0, 1, (0, 99999, 0), []), some (.getfield 25, 3, (1, 1, 4), [1152]), none, none, some (.isub, 1, (0, 99999, 0), []), some (.iload 8, 2, (0, 99999, 0), []), none],
  [some (.invokestatic 38, 3, (4, 12, 5), [4054, 4055, 1005]), none, none, some (.ixor, 1, (0, 99999, 0), []), some (.ireturn, 1, (0, 99999, 0), []), some (.aload_n 0, 1, (0, 99999, 0), []), some (.iload 6, 2, (0, 99999, 0), []), none, some (.iconst 0, 1, (0, 99999, 0), []), some (.iload_n 3, 1, (0, 99999, 0), []), some (.iload 8, 2, (0, 99999, 0), []), none, some (.invokestatic 38, 3, (4, 12, 5), [4054, 4055, 1005]), none, none, some (.aload_n 0, 1, (0, 99999, 0), [])],
  [some (.getfield 25, 3, (1, 1, 4), [1152]), none, none, some (.iadd, 1, (0, 99999, 0), []), some (.ireturn, 1, (0, 99999, 0), []), some (.aload_n 0, 1, (0, 99999, 0), []), some (.iload 6, 2, (0, 99999, 0), []), none, some (.iconst 1, 1, (0, 99999, 0), []), some (.iload_n 3, 1, (0, 99999, 0), []), some (.iload 8, 2, (0, 99999, 0), []), none, some (.invokestatic 38, 3, (4, 12, 5), [4054, 4055, 1005]), none, none, some (.iconst 3, 1, (0, 99999, 0), [])],
  [some (.imul, 1, (0, 99999, 0), []), some (.ireturn, 1, (0, 99999, 0), []), some (.aload_n 0, 1, (0, 99999, 0), []), some (.iload 6, 2, (0, 99999, 0), []), none, some (.iconst 0, 1, (0, 99999, 0), []), some (.iload_n 3, 1, (0, 99999, 0), []), some (.iconst 1, 1, (0, 99999, 0), []), some (.iadd, 1, (0, 99999, 0), []), some (.iload 8, 2, (0, 99999, 0), []), none, some (.invokestatic 38, 3, (4, 12, 5), [4054, 4055, 1005]), none, none, some (.ireturn, 1, (0, 99999, 0), []), some (.aload_n 0, 1, (0, 99999, 0), [])],
  [some (.iload 6, 2, (0, 99999, 0), []), none, some (.iconst 2, 1, (0, 99999, 0), []), some (.iload_n 3, 1, (0, 99999, 0), []), some (.iload 8, 2, (0, 99999, 0), []), none, some (.invokestatic 38, 3, (4, 12, 5), [4054, 4055, 1005]), none, none, some (.ineg, 1, (0, 99999, 0), []), some (.ireturn, 1, (0, 99999, 0), []), some (.aload_n 0, 1, (0, 99999, 0), []), some (.iload 6, 2, (0, 99999, 0), []), none, some (.iconst 0, 1, (0, 99999, 0), []), some (.iload_n 3, 1, (0, 99999, 0), [])],
  [some (.iload 8, 2, (0, 99999, 0), []), none, some (.invokestatic 38, 3, (4, 12, 5), [4054, 4055, 1005]), none, none, some (.aload_n 0, 1, (0, 99999, 0), []), some (.getfield 19, 3, (1, 1, 2), [1150]), none, none, some (.isub, 1, (0, 99999, 0), []), some (.ireturn, 1, (0, 99999, 0), []), some (.aload_n 0, 1, (0, 99999, 0), []), some (.iload 6, 2, (0, 99999, 0), []), none, some (.iconst 2, 1, (0, 99999, 0), []), some (.iload_n 3, 1, (0, 99999, 0), [])],
  [some (.iload 8, 2, (0, 99999, 0), []), none, some (.invokestatic 38, 3, (4, 12, 5), [4054, 4055, 1005]), none, none, some (.iconst 5, 1, (0, 99999, 0), []), some (.ixor, 1, (0, 99999, 0), []), some (.ireturn, 1, (0, 99999, 0), []), some (.aload_n 0, 1, (0, 99999, 0), []), some (.iload 6, 2, (0, 99999, 0), []), none, some (.iconst 0, 1, (0, 99999, 0), []), some (.iload_n 3, 1, (0, 99999, 0), []), some (.iload 8, 2, (0, 99999, 0), []), none, some (.invokestatic 38, 3, (4, 12, 5), [4054, 4055, 1005])],
  [none, none, some (.iconst 2, 1, (0, 99999, 0), []), some (.imul, 1, (0, 99999, 0), []), some (.ireturn, 1, (0, 99999, 0), []), some (.aload_n 0, 1, (0, 99999, 0), []), some (.iload 6, 2, (0, 99999, 0), []), none, some (.iconst 1, 1, (0, 99999, 0), []), some (.iload_n 3, 1, (0, 99999, 0), []), some (.aload_n 0, 1, (0, 99999, 0), []), some (.getfield 25, 3, (1, 1, 4), [1152]), none, none, some (.isub, 1, (0, 99999, 0), []), some (.iload 8, 2, (0, 99999, 0), [])],
  [none, some (.invokestatic 38, 3, (4, 12, 5), [4054, 4055, 1005]), none, none, some (.ireturn, 1, (0, 99999, 0), [])]])
def mX2_init : ab_D := (yX2_init, cX2_init, 1, none, 2, 0, true, [
  [some (.aload_n 0, 1, (0, 99999, 0), []), some (.invokespecial 3, 3, (6, 99999, 0), [1117, 1022, 1023]), none, none, some (.aload_n 0, 1, (0, 99999, 0), []), some (.new 9, 3, (2, 4, 0), [1118, 1025, 1002]), none, none, some (.dup, 1, (0, 99999, 0), []), some (.invokespecial 11, 3, (5, 45, 0), [1119, 1027, 1002]), none, none, some (.putfield 12, 3, (1, 2, 0), [1120]), none, none, some (.aload_n 0, 1, (0, 99999, 0), [])],
  [some (.iconst (-1), 1, (0, 99999, 0), []), some (.putfield 18, 3, (1, 2, 1), [1122]), none, none, some (.aload_n 0, 1, (0, 99999, 0), []), some (.sipush 160, 3, (0, 99999, 0), []), none, none, some (.newarray .int, 2, (0, 99999, 0), [1099]), none, some (.putfield 24, 3, (1, 2, 2), [1124]), none, none, some (.aload_n 0, 1, (0, 99999, 0), []), some (.iconst 0, 1, (0, 99999, 0), []), some (.putfield 28, 3, (1, 2, 3), [1125])],
  [none, none, some (.aload_n 0, 1, (0, 99999, 0), []), some (.iconst 0, 1, (0, 99999, 0), []), some (.putfield 31, 3, (1, 2, 4), [1126]), none, none, some (.aload_n 0, 1, (0, 99999, 0), []), some (.iconst 0, 1, (0, 99999, 0), []), some (.putfield 34, 3, (1, 2, 5), [1127]), none, none, some (.return_, 1, (0, 99999, 0), [])]])
def mX2_read : ab_D := (yX2_read, cX2_read, 4, some .int, 2, 2, false, [
  [some (.aload_n 0, 1, (0, 99999, 0), []), some (.getfield 12, 3, (1, 2, 0), [1120]), none, none, some (.aload_n 2, 1, (0, 99999, 0), []), some (.invokevirtual 37, 3, (3, 55, 1), [2162, 2163, 2164, 1002]), none, none, some (.aload_n 0, 1, (0, 99999, 0), []), some (.aload_n 1, 1, (0, 99999, 0), []), some (.aload_n 0, 1, (0, 99999, 0), []), some (.getfield 24, 3, (1, 2, 2), [1124]), none, none, some (.invokevirtual 41, 3, (3, 42, 1), [2167, 2168, 2169, 1006]), none],
  [none, some (.putfield 28, 3, (1, 2, 3), [1125]), none, none, some (.aload_n 0, 1, (0, 99999, 0), []), some (.iconst 0, 1, (0, 99999, 0), []), some (.putfield 31, 3, (1, 2, 4), [1126]), none, none, some (.aload_n 0, 1, (0, 99999, 0), []), some (.iconst (-1), 1, (0, 99999, 0), []), some (.putfield 18, 3, (1, 2, 1), [1122]), none, none, some (.iconst 1, 1, (0, 99999, 0), []), some (.istore_n 3, 1, (0, 99999, 0), [])],
  [some (.iload_n 3, 1, (0, 99999, 0), []), some (.aload_n 0, 1, (0, 99999, 0), []), some (.getfield 28, 3, (1, 2, 3), [1125]), none, none, some (.if_icmp .gt 50, 3, (0, 99999, 0), []), none, none, some (.aload_n 0, 1, (0, 99999, 0), []), some (.invokevirtual 45, 3, (3, 15, 0), [2179, 2181, 4, 1004]), none, none, some (.aload_n 0, 1, (0, 99999, 0), []), some (.getfield 18, 3, (1, 2, 1), [1122]), none, none],
  [some (.iconst (-1), 1, (0, 99999, 0), []), some (.if_icmp .ne 16, 3, (0, 99999, 0), []), none, none, some (.aload_n 0, 1, (0, 99999, 0), []), some (.getfield 31, 3, (1, 2, 4), [1126]), none, none, some (.aload_n 0, 1, (0, 99999, 0), []), some (.getfield 28, 3, (1, 2, 3), [1125]), none, none, some (.if_icmp .ne 5, 3, (0, 99999, 0), []), none, none, some (.iload_n 3, 1, (0, 99999, 0), [])],
  [some (.ireturn, 1, (0, 99999, 0), []), some (.aload_n 0, 1, (0, 99999, 0), []), some (.bipush 59, 2, (0, 99999, 0), []), none, some (.invokevirtual 48, 3, (3, 25, 1), [3023, 3025, 10, 1004]), none, none, some (.aload_n 0, 1, (0, 99999, 0), []), some (.getfield 18, 3, (1, 2, 1), [1122]), none, none, some (.iconst (-1), 1, (0, 99999, 0), []), some (.if_icmp .eq 5, 3, (0, 99999, 0), []), none, none, some (.iconst (-1), 1, (0, 99999, 0), [])],
  [some (.ireturn, 1, (0, 99999, 0), []), some (.iinc 3 1, 3, (0, 99999, 0), []), none, none, some (.goto (-52), 3, (0, 99999, 0), []), none, none, some (.aload_n 0, 1, (0, 99999, 0), []), some (.aload_n 0, 1, (0, 99999, 0), []), some (.getfield 28, 3, (1, 2, 3), [1125]), none, none, some (.putfield 18, 3, (1, 2, 1), [1122]), none, none, some (.iconst (-1), 1, (0, 99999, 0), [])],
  [some (.ireturn, 1, (0, 99999, 0), [])]])
def mX2_readItem : ab_D := (yX2_readItem, cX2_readItem, 3, none, 2, 0, false, [
  [some (.aload_n 0, 1, (0, 99999, 0), []), some (.getfield 31, 3, (1, 2, 4), [1126]), none, none, some (.istore_n 1, 1, (0, 99999, 0), []), some (.aload_n 0, 1, (0, 99999, 0), []), some (.invokevirtual 52, 3, (3, 21, 0), [2183, 2185, 5, 1004]), none, none, some (.istore_n 2, 1, (0, 99999, 0), []), some (.aload_n 0, 1, (0, 99999, 0), []), some (.getfield 18, 3, (1, 2, 1), [1122]), none, none, some (.iconst (-1), 1, (0, 99999, 0), []), some (.if_icmp .eq 4, 3, (0, 99999, 0), [])],
  [none, none, some (.return_, 1, (0, 99999, 0), []), some (.iload_n 2, 1, (0, 99999, 0), []), some (.tableswitch 73 0 4 #[36, 44, 52, 59, 66], 36, (0, 99999, 0), []), none, none, none, none, none, none, none, none, none, none, none],
  [none, none, none, none, none, none, none, none, none, none, none, none, none, none, none, none],
  [none, none, none, none, none, none, none, none, some (.aload_n 0, 1, (0, 99999, 0), []), some (.iload_n 1, 1, (0, 99999, 0), []), some (.invokevirtual 56, 3, (3, 16, 1), [3014, 3016, 8, 1004]), none, none, some (.goto 49, 3, (0, 99999, 0), []), none, none],
  [some (.aload_n 0, 1, (0, 99999, 0), []), some (.iload_n 1, 1, (0, 99999, 0), []), some (.invokevirtual 60, 3, (3, 17, 1), [3036, 3038, 13, 1004]), none, none, some (.goto 41, 3, (0, 99999, 0), []), none, none, some (.aload_n 0, 1, (0, 99999, 0), []), some (.invokevirtual 63, 3, (3, 18, 0), [3042, 3044, 14, 1004]), none, none, some (.goto 34, 3, (0, 99999, 0), []), none, none, some (.aload_n 0, 1, (0, 99999, 0), [])],
  [some (.invokevirtual 66, 3, (3, 19, 0), [3046, 3048, 15, 1004]), none, none, some (.goto 27, 3, (0, 99999, 0), []), none, none, some (.aload_n 0, 1, (0, 99999, 0), []), some (.invokevirtual 69, 3, (3, 20, 0), [3050, 3052, 16, 1004]), none, none, some (.goto 20, 3, (0, 99999, 0), []), none, none, some (.aload_n 0, 1, (0, 99999, 0), []), some (.getfield 12, 3, (1, 2, 0), [1120]), none],
  [none, some (.iload_n 2, 1, (0, 99999, 0), []), some (.iconst 5, 1, (0, 99999, 0), []), some (.if_icmp .ne 7, 3, (0, 99999, 0), []), none, none, some (.iconst 1, 1, (0, 99999, 0), []), some (.goto 4, 3, (0, 99999, 0), []), none, none, some (.iconst 0, 1, (0, 99999, 0), []), some (.putfield 72, 3, (1, 4, 11), [1060]), none, none, some (.return_, 1, (0, 99999, 0), [])]])
def mX2_readPiece : ab_D := (yX2_readPiece, cX2_readPiece, 5, none, 2, 1, false, [
  [some (.aload_n 0, 1, (0, 99999, 0), []), some (.getfield 12, 3, (1, 2, 0), [1120]), none, none, some (.invokevirtual 75, 3, (3, 52, 0), [3018, 2098, 2099, 1002]), none, none, some (.ifCond .ne 8, 3, (0, 99999, 0), []), none, none, some (.aload_n 0, 1, (0, 99999, 0), []), some (.iload_n 1, 1, (0, 99999, 0), []), some (.putfield 18, 3, (1, 2, 1), [1122]), none, none, some (.aload_n 0, 1, (0, 99999, 0), [])],
  [some (.iconst 0, 1, (0, 99999, 0), []), some (.bipush 6, 2, (0, 99999, 0), []), none, some (.invokevirtual 79, 3, (3, 26, 2), [3019, 3021, 9, 1004]), none, none, some (.istore_n 2, 1, (0, 99999, 0), []), some (.aload_n 0, 1, (0, 99999, 0), []), some (.iconst 0, 1, (0, 99999, 0), []), some (.bipush 9, 2, (0, 99999, 0), []), none, some (.invokevirtual 79, 3, (3, 26, 2), [3019, 3021, 9, 1004]), none, none, some (.istore_n 3, 1, (0, 99999, 0), []), some (.aload_n 0, 1, (0, 99999, 0), [])],
  [some (.iconst 1, 1, (0, 99999, 0), []), some (.bipush 50, 2, (0, 99999, 0), []), none, some (.invokevirtual 79, 3, (3, 26, 2), [3019, 3021, 9, 1004]), none, none, some (.istore 4, 2, (0, 99999, 0), []), none, some (.aload_n 0, 1, (0, 99999, 0), []), some (.getfield 18, 3, (1, 2, 1), [1122]), none, none, some (.iconst (-1), 1, (0, 99999, 0), []), some (.if_icmp .ne 15, 3, (0, 99999, 0), []), none, none],
  [some (.aload_n 0, 1, (0, 99999, 0), []), some (.getfield 12, 3, (1, 2, 0), [1120]), none, none, some (.iload_n 2, 1, (0, 99999, 0), []), some (.iload_n 3, 1, (0, 99999, 0), []), some (.iload 4, 2, (0, 99999, 0), []), none, some (.invokevirtual 83, 3, (3, 56, 3), [3035, 2102, 2103, 1002]), none, none, some (.pop, 1, (0, 99999, 0), []), some (.return_, 1, (0, 99999, 0), [])]])
def mX2_readPerson : ab_D := (yX2_readPerson, cX2_readPerson, 5, none, 2, 1, false, [
  [some (.aload_n 0, 1, (0, 99999, 0), []), some (.getfield 12, 3, (1, 2, 0), [1120]), none, none, some (.invokevirtual 87, 3, (3, 53, 0), [3040, 2114, 2115, 1002]), none, none, some (.ifCond .ne 8, 3, (0, 99999, 0), []), none, none, some (.aload_n 0, 1, (0, 99999, 0), []), some (.iload_n 1, 1, (0, 99999, 0), []), some (.putfield 18, 3, (1, 2, 1), [1122]), none, none, some (.aload_n 0, 1, (0, 99999, 0), [])],
  [some (.iconst 0, 1, (0, 99999, 0), []), some (.bipush 99, 2, (0, 99999, 0), []), none, some (.invokevirtual 79, 3, (3, 26, 2), [3019, 3021, 9, 1004]), none, none, some (.istore_n 2, 1, (0, 99999, 0), []), some (.aload_n 0, 1, (0, 99999, 0), []), some (.iconst 0, 1, (0, 99999, 0), []), some (.bipush 9, 2, (0, 99999, 0), []), none, some (.invokevirtual 79, 3, (3, 26, 2), [3019, 3021, 9, 1004]), none, none, some (.istore_n 3, 1, (0, 99999, 0), []), some (.aload_n 0, 1, (0, 99999, 0), [])],
  [some (.iconst 0, 1, (0, 99999, 0), []), some (.bipush 7, 2, (0, 99999, 0), []), none, some (.invokevirtual 79, 3, (3, 26, 2), [3019, 3021, 9, 1004]), none, none, some (.istore 4, 2, (0, 99999, 0), []), none, some (.aload_n 0, 1, (0, 99999, 0), []), some (.getfield 18, 3, (1, 2, 1), [1122]), none, none, some (.iconst (-1), 1, (0, 99999, 0), []), some (.if_icmp .ne 15, 3, (0, 99999, 0), []), none, none],
  [some (.aload_n 0, 1, (0, 99999, 0), []), some (.getfield 12, 3, (1, 2, 0), [1120]), none, none, some (.iload_n 2, 1, (0, 99999, 0), []), some (.iload_n 3, 1, (0, 99999, 0), []), some (.iload 4, 2, (0, 99999, 0), []), none, some (.invokevirtual 90, 3, (3, 57, 3), [3041, 2118, 2119, 1002]), none, none, some (.pop, 1, (0, 99999, 0), []), some (.return_, 1, (0, 99999, 0), [])]])
def mX2_readCost : ab_D := (yX2_readCost, cX2_readCost, 3, none, 2, 0, false, [
  [some (.aload_n 0, 1, (0, 99999, 0), []), some (.iconst 0, 1, (0, 99999, 0), []), some (.bipush 7, 2, (0, 99999, 0), []), none, some (.invokevirtual 79, 3, (3, 26, 2), [3019, 3021, 9, 1004]), none, none, some (.istore_n 1, 1, (0, 99999, 0), []), some (.aload_n 0, 1, (0, 99999, 0), []), some (.iconst 1, 1, (0, 99999, 0), []), some (.bipush 60, 2, (0, 99999, 0), []), none, some (.invokevirtual 79, 3, (3, 26, 2), [3019, 3021, 9, 1004]), none, none, some (.istore_n 2, 1, (0, 99999, 0), [])],
  [some (.aload_n 0, 1, (0, 99999, 0), []), some (.getfield 18, 3, (1, 2, 1), [1122]), none, none, some (.iconst (-1), 1, (0, 99999, 0), []), some (.if_icmp .ne 13, 3, (0, 99999, 0), []), none, none, some (.aload_n 0, 1, (0, 99999, 0), []), some (.getfield 12, 3, (1, 2, 0), [1120]), none, none, some (.getfield 93, 3, (1, 4, 8), [1050]), none, none, some (.iload_n 1, 1, (0, 99999, 0), [])],
  [some (.iload_n 2, 1, (0, 99999, 0), []), some (.iastore, 1, (0, 99999, 0), []), some (.return_, 1, (0, 99999, 0), [])]])
def mX2_readHas : ab_D := (yX2_readHas, cX2_readHas, 3, none, 2, 0, false, [
  [some (.aload_n 0, 1, (0, 99999, 0), []), some (.iconst 0, 1, (0, 99999, 0), []), some (.aload_n 0, 1, (0, 99999, 0), []), some (.getfield 12, 3, (1, 2, 0), [1120]), none, none, some (.getfield 96, 3, (1, 4, 9), [1054]), none, none, some (.iconst 1, 1, (0, 99999, 0), []), some (.isub, 1, (0, 99999, 0), []), some (.invokevirtual 79, 3, (3, 26, 2), [3019, 3021, 9, 1004]), none, none, some (.istore_n 1, 1, (0, 99999, 0), []), some (.aload_n 0, 1, (0, 99999, 0), [])],
  [some (.getfield 18, 3, (1, 2, 1), [1122]), none, none, some (.iconst (-1), 1, (0, 99999, 0), []), some (.if_icmp .ne 25, 3, (0, 99999, 0), []), none, none, some (.aload_n 0, 1, (0, 99999, 0), []), some (.getfield 12, 3, (1, 2, 0), [1120]), none, none, some (.getfield 99, 3, (1, 4, 3), [1039]), none, none, some (.iload_n 1, 1, (0, 99999, 0), []), some (.iaload, 1, (0, 99999, 0), [])],
  [some (.bipush 99, 2, (0, 99999, 0), []), none, some (.if_icmp .eq 11, 3, (0, 99999, 0), []), none, none, some (.aload_n 0, 1, (0, 99999, 0), []), some (.aload_n 0, 1, (0, 99999, 0), []), some (.getfield 34, 3, (1, 2, 5), [1127]), none, none, some (.putfield 18, 3, (1, 2, 1), [1122]), none, none, some (.aload_n 0, 1, (0, 99999, 0), []), some (.iconst 0, 1, (0, 99999, 0), []), some (.aload_n 0, 1, (0, 99999, 0), [])],
  [some (.getfield 12, 3, (1, 2, 0), [1120]), none, none, some (.getfield 102, 3, (1, 4, 10), [1057]), none, none, some (.iconst 1, 1, (0, 99999, 0), []), some (.isub, 1, (0, 99999, 0), []), some (.invokevirtual 79, 3, (3, 26, 2), [3019, 3021, 9, 1004]), none, none, some (.istore_n 2, 1, (0, 99999, 0), []), some (.aload_n 0, 1, (0, 99999, 0), []), some (.getfield 18, 3, (1, 2, 1), [1122]), none, none],
  [some (.iconst (-1), 1, (0, 99999, 0), []), some (.if_icmp .ne 13, 3, (0, 99999, 0), []), none, none, some (.aload_n 0, 1, (0, 99999, 0), []), some (.getfield 12, 3, (1, 2, 0), [1120]), none, none, some (.getfield 99, 3, (1, 4, 3), [1039]), none, none, some (.iload_n 1, 1, (0, 99999, 0), []), some (.iload_n 2, 1, (0, 99999, 0), []), some (.iastore, 1, (0, 99999, 0), []), some (.return_, 1, (0, 99999, 0), [])]])
def mX2_readBack : ab_D := (yX2_readBack, cX2_readBack, 2, none, 2, 0, false, [
  [some (.aload_n 0, 1, (0, 99999, 0), []), some (.iconst 0, 1, (0, 99999, 0), []), some (.aload_n 0, 1, (0, 99999, 0), []), some (.getfield 12, 3, (1, 2, 0), [1120]), none, none, some (.getfield 96, 3, (1, 4, 9), [1054]), none, none, some (.iconst 1, 1, (0, 99999, 0), []), some (.isub, 1, (0, 99999, 0), []), some (.invokevirtual 79, 3, (3, 26, 2), [3019, 3021, 9, 1004]), none, none, some (.istore_n 1, 1, (0, 99999, 0), []), some (.aload_n 0, 1, (0, 99999, 0), [])],
  [some (.getfield 18, 3, (1, 2, 1), [1122]), none, none, some (.iconst (-1), 1, (0, 99999, 0), []), some (.if_icmp .ne 25, 3, (0, 99999, 0), []), none, none, some (.aload_n 0, 1, (0, 99999, 0), []), some (.getfield 12, 3, (1, 2, 0), [1120]), none, none, some (.getfield 99, 3, (1, 4, 3), [1039]), none, none, some (.iload_n 1, 1, (0, 99999, 0), []), some (.iaload, 1, (0, 99999, 0), [])],
  [some (.bipush 99, 2, (0, 99999, 0), []), none, some (.if_icmp .ne 11, 3, (0, 99999, 0), []), none, none, some (.aload_n 0, 1, (0, 99999, 0), []), some (.aload_n 0, 1, (0, 99999, 0), []), some (.getfield 34, 3, (1, 2, 5), [1127]), none, none, some (.putfield 18, 3, (1, 2, 1), [1122]), none, none, some (.aload_n 0, 1, (0, 99999, 0), []), some (.getfield 18, 3, (1, 2, 1), [1122]), none],
  [none, some (.iconst (-1), 1, (0, 99999, 0), []), some (.if_icmp .ne 14, 3, (0, 99999, 0), []), none, none, some (.aload_n 0, 1, (0, 99999, 0), []), some (.getfield 12, 3, (1, 2, 0), [1120]), none, none, some (.getfield 99, 3, (1, 4, 3), [1039]), none, none, some (.iload_n 1, 1, (0, 99999, 0), []), some (.bipush 99, 2, (0, 99999, 0), []), none, some (.iastore, 1, (0, 99999, 0), [])],
  [some (.return_, 1, (0, 99999, 0), [])]])
def mX2_readWord : ab_D := (yX2_readWord, cX2_readWord, 5, some .int, 2, 0, false, [
  [some (.iconst 0, 1, (0, 99999, 0), []), some (.istore_n 1, 1, (0, 99999, 0), []), some (.iconst 0, 1, (0, 99999, 0), []), some (.istore_n 2, 1, (0, 99999, 0), []), some (.iload_n 2, 1, (0, 99999, 0), []), some (.bipush 7, 2, (0, 99999, 0), []), none, some (.if_icmp .ge 50, 3, (0, 99999, 0), []), none, none, some (.iload_n 2, 1, (0, 99999, 0), []), some (.invokestatic 105, 3, (4, 22, 1), [2187, 2188, 1004]), none, none, some (.astore_n 3, 1, (0, 99999, 0), []), some (.aload_n 0, 1, (0, 99999, 0), [])],
  [some (.aload_n 3, 1, (0, 99999, 0), []), some (.invokevirtual 109, 3, (3, 23, 1), [2197, 2199, 6, 1004]), none, none, some (.istore 4, 2, (0, 99999, 0), []), none, some (.iload 4, 2, (0, 99999, 0), []), none, some (.aload_n 3, 1, (0, 99999, 0), []), some (.invokevirtual 113, 3, (0, 99999, 0), []), none, none, some (.if_icmp .ne 16, 3, (0, 99999, 0), []), none, none, some (.aload_n 0, 1, (0, 99999, 0), [])],
  [some (.dup, 1, (0, 99999, 0), []), some (.getfield 31, 3, (1, 2, 4), [1126]), none, none, some (.iload 4, 2, (0, 99999, 0), []), none, some (.iadd, 1, (0, 99999, 0), []), some (.putfield 31, 3, (1, 2, 4), [1126]), none, none, some (.iload_n 2, 1, (0, 99999, 0), []), some (.ireturn, 1, (0, 99999, 0), []), some (.iload_n 1, 1, (0, 99999, 0), []), some (.iload 4, 2, (0, 99999, 0), []), none, some (.invokestatic 118, 3, (7, 99999, 0), [3013, 2091, 1010, 2092])],
  [none, none, some (.istore_n 1, 1, (0, 99999, 0), []), some (.iinc 2 1, 3, (0, 99999, 0), []), none, none, some (.goto (-50), 3, (0, 99999, 0), []), none, none, some (.aload_n 0, 1, (0, 99999, 0), []), some (.aload_n 0, 1, (0, 99999, 0), []), some (.getfield 31, 3, (1, 2, 4), [1126]), none, none, some (.iload_n 1, 1, (0, 99999, 0), []), some (.iadd, 1, (0, 99999, 0), [])],
  [some (.putfield 18, 3, (1, 2, 1), [1122]), none, none, some (.iconst (-1), 1, (0, 99999, 0), []), some (.ireturn, 1, (0, 99999, 0), [])]])
def mX2_spelt : ab_D := (yX2_spelt, cX2_spelt, 1, some (.object "java/lang/String"), 2, 1, false, [
  [some (.iload_n 0, 1, (0, 99999, 0), []), some (.tableswitch 57 0 5 #[39, 42, 45, 48, 51, 54], 39, (0, 99999, 0), []), none, none, none, none, none, none, none, none, none, none, none, none, none, none],
  [none, none, none, none, none, none, none, none, none, none, none, none, none, none, none, none],
  [none, none, none, none, none, none, none, none, some (.ldc 123, 2, (0, 99999, 0), []), none, some (.areturn, 1, (0, 99999, 0), []), some (.ldc 125, 2, (0, 99999, 0), []), none, some (.areturn, 1, (0, 99999, 0), []), some (.ldc 127, 2, (0, 99999, 0), []), none],
  [some (.areturn, 1, (0, 99999, 0), []), some (.ldc 128, 2, (0, 99999, 0), []), none, some (.areturn, 1, (0, 99999, 0), []), some (.ldc 130, 2, (0, 99999, 0), []), none, some (.areturn, 1, (0, 99999, 0), []), some (.ldc 132, 2, (0, 99999, 0), []), none, some (.areturn, 1, (0, 99999, 0), []), some (.ldc 134, 2, (0, 99999, 0), []), none, some (.areturn, 1, (0, 99999, 0), [])]])
def mX2_lettersAsIn : ab_D := (yX2_lettersAsIn, cX2_lettersAsIn, 3, some .int, 2, 1, false, [
  [some (.iconst 0, 1, (0, 99999, 0), []), some (.istore_n 2, 1, (0, 99999, 0), []), some (.iload_n 2, 1, (0, 99999, 0), []), some (.aload_n 1, 1, (0, 99999, 0), []), some (.invokevirtual 113, 3, (0, 99999, 0), []), none, none, some (.if_icmp .ge 29, 3, (0, 99999, 0), []), none, none, some (.aload_n 0, 1, (0, 99999, 0), []), some (.aload_n 0, 1, (0, 99999, 0), []), some (.getfield 31, 3, (1, 2, 4), [1126]), none, none, some (.iload_n 2, 1, (0, 99999, 0), [])],
  [some (.iadd, 1, (0, 99999, 0), []), some (.aload_n 1, 1, (0, 99999, 0), []), some (.iload_n 2, 1, (0, 99999, 0), []), some (.invokevirtual 136, 3, (0, 99999, 0), []), none, none, some (.invokevirtual 140, 3, (3, 24, 2), [3009, 3011, 7, 1004]), none, none, some (.ifCond .ne 5, 3, (0, 99999, 0), []), none, none, some (.iload_n 2, 1, (0, 99999, 0), []), some (.ireturn, 1, (0, 99999, 0), []), some (.iinc 2 1, 3, (0, 99999, 0), []), none],
  [none, some (.goto (-31), 3, (0, 99999, 0), []), none, none, some (.aload_n 1, 1, (0, 99999, 0), []), some (.invokevirtual 113, 3, (0, 99999, 0), []), none, none, some (.ireturn, 1, (0, 99999, 0), [])]])
def mX2_stands : ab_D := (yX2_stands, cX2_stands, 3, some .boolean, 2, 2, false, [
  [some (.iload_n 1, 1, (0, 99999, 0), []), some (.ifCond .lt 25, 3, (0, 99999, 0), []), none, none, some (.iload_n 1, 1, (0, 99999, 0), []), some (.aload_n 0, 1, (0, 99999, 0), []), some (.getfield 28, 3, (1, 2, 3), [1125]), none, none, some (.if_icmp .ge 17, 3, (0, 99999, 0), []), none, none, some (.aload_n 0, 1, (0, 99999, 0), []), some (.getfield 24, 3, (1, 2, 2), [1124]), none, none],
  [some (.iload_n 1, 1, (0, 99999, 0), []), some (.iaload, 1, (0, 99999, 0), []), some (.iload_n 2, 1, (0, 99999, 0), []), some (.if_icmp .ne 7, 3, (0, 99999, 0), []), none, none, some (.iconst 1, 1, (0, 99999, 0), []), some (.goto 4, 3, (0, 99999, 0), []), none, none, some (.iconst 0, 1, (0, 99999, 0), []), some (.ireturn, 1, (0, 99999, 0), [])]])
def mX2_readSign : ab_D := (yX2_readSign, cX2_readSign, 2, none, 2, 1, false, [
  [some (.aload_n 0, 1, (0, 99999, 0), []), some (.getfield 18, 3, (1, 2, 1), [1122]), none, none, some (.iconst (-1), 1, (0, 99999, 0), []), some (.if_icmp .eq 4, 3, (0, 99999, 0), []), none, none, some (.return_, 1, (0, 99999, 0), []), some (.aload_n 0, 1, (0, 99999, 0), []), some (.aload_n 0, 1, (0, 99999, 0), []), some (.getfield 31, 3, (1, 2, 4), [1126]), none, none, some (.iload_n 1, 1, (0, 99999, 0), []), some (.invokevirtual 140, 3, (3, 24, 2), [3009, 3011, 7, 1004])],
  [none, none, some (.ifCond .eq 16, 3, (0, 99999, 0), []), none, none, some (.aload_n 0, 1, (0, 99999, 0), []), some (.dup, 1, (0, 99999, 0), []), some (.getfield 31, 3, (1, 2, 4), [1126]), none, none, some (.iconst 1, 1, (0, 99999, 0), []), some (.iadd, 1, (0, 99999, 0), []), some (.putfield 31, 3, (1, 2, 4), [1126]), none, none, some (.goto 11, 3, (0, 99999, 0), [])],
  [none, none, some (.aload_n 0, 1, (0, 99999, 0), []), some (.aload_n 0, 1, (0, 99999, 0), []), some (.getfield 31, 3, (1, 2, 4), [1126]), none, none, some (.putfield 18, 3, (1, 2, 1), [1122]), none, none, some (.return_, 1, (0, 99999, 0), [])]])
def mX2_readNumber : ab_D := (yX2_readNumber, cX2_readNumber, 4, some .int, 2, 2, false, [
  [some (.aload_n 0, 1, (0, 99999, 0), []), some (.bipush 32, 2, (0, 99999, 0), []), none, some (.invokevirtual 48, 3, (3, 25, 1), [3023, 3025, 10, 1004]), none, none, some (.aload_n 0, 1, (0, 99999, 0), []), some (.getfield 18, 3, (1, 2, 1), [1122]), none, none, some (.iconst (-1), 1, (0, 99999, 0), []), some (.if_icmp .eq 5, 3, (0, 99999, 0), []), none, none, some (.iconst 0, 1, (0, 99999, 0), []), some (.ireturn, 1, (0, 99999, 0), [])],
  [some (.aload_n 0, 1, (0, 99999, 0), []), some (.aload_n 0, 1, (0, 99999, 0), []), some (.getfield 31, 3, (1, 2, 4), [1126]), none, none, some (.invokevirtual 144, 3, (3, 27, 1), [3027, 3029, 11, 1004]), none, none, some (.ifCond .ne 13, 3, (0, 99999, 0), []), none, none, some (.aload_n 0, 1, (0, 99999, 0), []), some (.aload_n 0, 1, (0, 99999, 0), []), some (.getfield 31, 3, (1, 2, 4), [1126]), none, none],
  [some (.putfield 18, 3, (1, 2, 1), [1122]), none, none, some (.iconst 0, 1, (0, 99999, 0), []), some (.ireturn, 1, (0, 99999, 0), []), some (.aload_n 0, 1, (0, 99999, 0), []), some (.aload_n 0, 1, (0, 99999, 0), []), some (.getfield 31, 3, (1, 2, 4), [1126]), none, none, some (.putfield 34, 3, (1, 2, 5), [1127]), none, none, some (.aload_n 0, 1, (0, 99999, 0), []), some (.invokevirtual 148, 3, (3, 28, 0), [3031, 3033, 12, 1004]), none],
  [none, some (.istore_n 3, 1, (0, 99999, 0), []), some (.aload_n 0, 1, (0, 99999, 0), []), some (.aload_n 0, 1, (0, 99999, 0), []), some (.getfield 31, 3, (1, 2, 4), [1126]), none, none, some (.invokevirtual 144, 3, (3, 27, 1), [3027, 3029, 11, 1004]), none, none, some (.ifCond .eq 13, 3, (0, 99999, 0), []), none, none, some (.iload_n 3, 1, (0, 99999, 0), []), some (.bipush 10, 2, (0, 99999, 0), []), none],
  [some (.imul, 1, (0, 99999, 0), []), some (.aload_n 0, 1, (0, 99999, 0), []), some (.invokevirtual 148, 3, (3, 28, 0), [3031, 3033, 12, 1004]), none, none, some (.iadd, 1, (0, 99999, 0), []), some (.istore_n 3, 1, (0, 99999, 0), []), some (.iload_n 3, 1, (0, 99999, 0), []), some (.iload_n 1, 1, (0, 99999, 0), []), some (.if_icmp .lt 8, 3, (0, 99999, 0), []), none, none, some (.iload_n 3, 1, (0, 99999, 0), []), some (.iload_n 2, 1, (0, 99999, 0), []), some (.if_icmp .le 11, 3, (0, 99999, 0), []), none],
  [none, some (.aload_n 0, 1, (0, 99999, 0), []), some (.aload_n 0, 1, (0, 99999, 0), []), some (.getfield 34, 3, (1, 2, 5), [1127]), none, none, some (.putfield 18, 3, (1, 2, 1), [1122]), none, none, some (.iload_n 3, 1, (0, 99999, 0), []), some (.ireturn, 1, (0, 99999, 0), [])]])
def mX2_isDigit : ab_D := (yX2_isDigit, cX2_isDigit, 2, some .boolean, 2, 1, false, [
  [some (.iload_n 1, 1, (0, 99999, 0), []), some (.ifCond .lt 37, 3, (0, 99999, 0), []), none, none, some (.iload_n 1, 1, (0, 99999, 0), []), some (.aload_n 0, 1, (0, 99999, 0), []), some (.getfield 28, 3, (1, 2, 3), [1125]), none, none, some (.if_icmp .ge 29, 3, (0, 99999, 0), []), none, none, some (.aload_n 0, 1, (0, 99999, 0), []), some (.getfield 24, 3, (1, 2, 2), [1124]), none, none],
  [some (.iload_n 1, 1, (0, 99999, 0), []), some (.iaload, 1, (0, 99999, 0), []), some (.bipush 48, 2, (0, 99999, 0), []), none, some (.if_icmp .lt 18, 3, (0, 99999, 0), []), none, none, some (.aload_n 0, 1, (0, 99999, 0), []), some (.getfield 24, 3, (1, 2, 2), [1124]), none, none, some (.iload_n 1, 1, (0, 99999, 0), []), some (.iaload, 1, (0, 99999, 0), []), some (.bipush 57, 2, (0, 99999, 0), []), none, some (.if_icmp .gt 7, 3, (0, 99999, 0), [])],
  [none, none, some (.iconst 1, 1, (0, 99999, 0), []), some (.goto 4, 3, (0, 99999, 0), []), none, none, some (.iconst 0, 1, (0, 99999, 0), []), some (.ireturn, 1, (0, 99999, 0), [])]])
def mX2_readDigit : ab_D := (yX2_readDigit, cX2_readDigit, 2, some .int, 2, 0, false, [
  [some (.aload_n 0, 1, (0, 99999, 0), []), some (.aload_n 0, 1, (0, 99999, 0), []), some (.getfield 31, 3, (1, 2, 4), [1126]), none, none, some (.invokevirtual 144, 3, (3, 27, 1), [3027, 3029, 11, 1004]), none, none, some (.ifCond .ne 5, 3, (0, 99999, 0), []), none, none, some (.iconst 0, 1, (0, 99999, 0), []), some (.ireturn, 1, (0, 99999, 0), []), some (.aload_n 0, 1, (0, 99999, 0), []), some (.getfield 24, 3, (1, 2, 2), [1124]), none],
  [none, some (.aload_n 0, 1, (0, 99999, 0), []), some (.getfield 31, 3, (1, 2, 4), [1126]), none, none, some (.iaload, 1, (0, 99999, 0), []), some (.bipush 48, 2, (0, 99999, 0), []), none, some (.isub, 1, (0, 99999, 0), []), some (.istore_n 1, 1, (0, 99999, 0), []), some (.aload_n 0, 1, (0, 99999, 0), []), some (.dup, 1, (0, 99999, 0), []), some (.getfield 31, 3, (1, 2, 4), [1126]), none, none, some (.iconst 1, 1, (0, 99999, 0), [])],
  [some (.iadd, 1, (0, 99999, 0), []), some (.putfield 31, 3, (1, 2, 4), [1126]), none, none, some (.iload_n 1, 1, (0, 99999, 0), []), some (.ireturn, 1, (0, 99999, 0), [])]])
def mX3_init : ab_D := (yX3_init, cX3_init, 1, none, 3, 0, true, [
  [some (.aload_n 0, 1, (0, 99999, 0), []), some (.invokespecial 3, 3, (6, 99999, 0), [1168, 1022, 1023]), none, none, some (.aload_n 0, 1, (0, 99999, 0), []), some (.sipush 160, 3, (0, 99999, 0), []), none, none, some (.newarray .long, 2, (0, 99999, 0), [1181]), none, some (.putfield 11, 3, (1, 3, 0), [1169]), none, none, some (.aload_n 0, 1, (0, 99999, 0), []), some (.iconst (-1), 1, (0, 99999, 0), []), some (.putfield 15, 3, (1, 3, 1), [1170])],
  [none, none, some (.aload_n 0, 1, (0, 99999, 0), []), some (.iconst 0, 1, (0, 99999, 0), []), some (.putfield 19, 3, (1, 3, 2), [1172]), none, none, some (.return_, 1, (0, 99999, 0), [])]])
def mX3_holdRow : ab_D := (yX3_holdRow, cX3_holdRow, 3, none, 3, 2, false, [
  [some (.aload_n 0, 1, (0, 99999, 0), []), some (.getfield 11, 3, (1, 3, 0), [1169]), none, none, some (.lconst 0, 1, (0, 99999, 0), []), some (.invokestatic 22, 3, (4, 214, 2), [1231, 1232, 1008]), none, none, some (.aload_n 0, 1, (0, 99999, 0), []), some (.bipush 100, 2, (0, 99999, 0), []), none, some (.iload_n 1, 1, (0, 99999, 0), []), some (.iadd, 1, (0, 99999, 0), []), some (.putfield 15, 3, (1, 3, 1), [1170]), none, none],
  [some (.aload_n 0, 1, (0, 99999, 0), []), some (.iload_n 2, 1, (0, 99999, 0), []), some (.putfield 19, 3, (1, 3, 2), [1172]), none, none, some (.return_, 1, (0, 99999, 0), [])]])
def mX3_holdPiece : ab_D := (yX3_holdPiece, cX3_holdPiece, 2, none, 3, 1, false, [
  [some (.aload_n 0, 1, (0, 99999, 0), []), some (.iload_n 1, 1, (0, 99999, 0), []), some (.putfield 15, 3, (1, 3, 1), [1170]), none, none, some (.aload_n 0, 1, (0, 99999, 0), []), some (.iconst 0, 1, (0, 99999, 0), []), some (.putfield 19, 3, (1, 3, 2), [1172]), none, none, some (.return_, 1, (0, 99999, 0), [])]])
def mX3_isEmpty : ab_D := (yX3_isEmpty, cX3_isEmpty, 1, some .boolean, 3, 0, false, [
  [some (.aload_n 0, 1, (0, 99999, 0), []), some (.getfield 15, 3, (1, 3, 1), [1170]), none, none, some (.iconst (-1), 1, (0, 99999, 0), []), some (.if_icmp .ne 7, 3, (0, 99999, 0), []), none, none, some (.iconst 1, 1, (0, 99999, 0), []), some (.goto 4, 3, (0, 99999, 0), []), none, none, some (.iconst 0, 1, (0, 99999, 0), []), some (.ireturn, 1, (0, 99999, 0), [])]])
def mX3_isOtherThanRow : ab_D := (yX3_isOtherThanRow, cX3_isOtherThanRow, 1, some .boolean, 3, 0, false, [
  [some (.aload_n 0, 1, (0, 99999, 0), []), some (.getfield 15, 3, (1, 3, 1), [1170]), none, none, some (.ifCond .lt 16, 3, (0, 99999, 0), []), none, none, some (.aload_n 0, 1, (0, 99999, 0), []), some (.getfield 15, 3, (1, 3, 1), [1170]), none, none, some (.bipush 100, 2, (0, 99999, 0), []), none, some (.if_icmp .ge 7, 3, (0, 99999, 0), []), none, none],
  [some (.iconst 1, 1, (0, 99999, 0), []), some (.goto 4, 3, (0, 99999, 0), []), none, none, some (.iconst 0, 1, (0, 99999, 0), []), some (.ireturn, 1, (0, 99999, 0), [])]])
def mX3_isOfOtherSort : ab_D := (yX3_isOfOtherSort, cX3_isOfOtherSort, 2, some .boolean, 3, 1, false, [
  [some (.aload_n 0, 1, (0, 99999, 0), []), some (.invokevirtual 28, 3, (3, 32, 0), [2031, 2007, 2008, 1006]), none, none, some (.ifCond .ne 25, 3, (0, 99999, 0), []), none, none, some (.aload_n 1, 1, (0, 99999, 0), []), some (.invokevirtual 28, 3, (3, 32, 0), [2031, 2007, 2008, 1006]), none, none, some (.ifCond .ne 18, 3, (0, 99999, 0), []), none, none, some (.aload_n 0, 1, (0, 99999, 0), []), some (.getfield 15, 3, (1, 3, 1), [1170])],
  [none, none, some (.aload_n 1, 1, (0, 99999, 0), []), some (.getfield 15, 3, (1, 3, 1), [1170]), none, none, some (.if_icmp .eq 7, 3, (0, 99999, 0), []), none, none, some (.iconst 1, 1, (0, 99999, 0), []), some (.goto 4, 3, (0, 99999, 0), []), none, none, some (.iconst 0, 1, (0, 99999, 0), []), some (.ireturn, 1, (0, 99999, 0), [])]])
def mX3_hasElement : ab_D := (yX3_hasElement, cX3_hasElement, 2, some .boolean, 3, 1, false, [
  [some (.iload_n 1, 1, (0, 99999, 0), []), some (.ifCond .lt 15, 3, (0, 99999, 0), []), none, none, some (.iload_n 1, 1, (0, 99999, 0), []), some (.aload_n 0, 1, (0, 99999, 0), []), some (.getfield 19, 3, (1, 3, 2), [1172]), none, none, some (.if_icmp .ge 7, 3, (0, 99999, 0), []), none, none, some (.iconst 1, 1, (0, 99999, 0), []), some (.goto 4, 3, (0, 99999, 0), []), none, none],
  [some (.iconst 0, 1, (0, 99999, 0), []), some (.ireturn, 1, (0, 99999, 0), [])]])
def mX3_hasStretch : ab_D := (yX3_hasStretch, cX3_hasStretch, 3, some .boolean, 3, 2, false, [
  [some (.iload_n 1, 1, (0, 99999, 0), []), some (.ifCond .lt 29, 3, (0, 99999, 0), []), none, none, some (.iload_n 1, 1, (0, 99999, 0), []), some (.aload_n 0, 1, (0, 99999, 0), []), some (.getfield 19, 3, (1, 3, 2), [1172]), none, none, some (.if_icmp .gt 21, 3, (0, 99999, 0), []), none, none, some (.iload_n 2, 1, (0, 99999, 0), []), some (.ifCond .lt 17, 3, (0, 99999, 0), []), none, none],
  [some (.iload_n 2, 1, (0, 99999, 0), []), some (.aload_n 0, 1, (0, 99999, 0), []), some (.getfield 19, 3, (1, 3, 2), [1172]), none, none, some (.iload_n 1, 1, (0, 99999, 0), []), some (.isub, 1, (0, 99999, 0), []), some (.if_icmp .gt 7, 3, (0, 99999, 0), []), none, none, some (.iconst 1, 1, (0, 99999, 0), []), some (.goto 4, 3, (0, 99999, 0), []), none, none, some (.iconst 0, 1, (0, 99999, 0), []), some (.ireturn, 1, (0, 99999, 0), [])]])
def mX3_put : ab_D := (yX3_put, cX3_put, 4, none, 3, 2, false, [
  [some (.aload_n 0, 1, (0, 99999, 0), []), some (.iload_n 1, 1, (0, 99999, 0), []), some (.invokevirtual 32, 3, (3, 35, 1), [2018, 2011, 2012, 1006]), none, none, some (.ifCond .eq 14, 3, (0, 99999, 0), []), none, none, some (.aload_n 0, 1, (0, 99999, 0), []), some (.getfield 11, 3, (1, 3, 0), [1169]), none, none, some (.iload_n 1, 1, (0, 99999, 0), []), some (.aload_n 0, 1, (0, 99999, 0), []), some (.lload_n 2, 1, (0, 99999, 0), []), some (.invokevirtual 36, 3, (3, 38, 1), [2019, 2021, 2, 1006])],
  [none, none, some (.lastore, 1, (0, 99999, 0), []), some (.return_, 1, (0, 99999, 0), [])]])
def mX3_lowestBits : ab_D := (yX3_lowestBits, cX3_lowestBits, 3, some .long, 3, 1, false, [
  [some (.aload_n 0, 1, (0, 99999, 0), []), some (.getfield 15, 3, (1, 3, 1), [1170]), none, none, some (.bipush 100, 2, (0, 99999, 0), []), none, some (.isub, 1, (0, 99999, 0), []), some (.tableswitch 39 0 2 #[25, 30, 35], 25, (0, 99999, 0), []), none, none, none, none, none, none, none, none],
  [none, none, none, none, none, none, none, none, none, none, none, none, none, none, none, none],
  [some (.lload_n 1, 1, (0, 99999, 0), []), some (.l2i, 1, (0, 99999, 0), []), some (.i2b, 1, (0, 99999, 0), []), some (.i2l, 1, (0, 99999, 0), []), some (.lreturn, 1, (0, 99999, 0), []), some (.lload_n 1, 1, (0, 99999, 0), []), some (.l2i, 1, (0, 99999, 0), []), some (.i2s, 1, (0, 99999, 0), []), some (.i2l, 1, (0, 99999, 0), []), some (.lreturn, 1, (0, 99999, 0), []), some (.lload_n 1, 1, (0, 99999, 0), []), some (.l2i, 1, (0, 99999, 0), []), some (.i2l, 1, (0, 99999, 0), []), some (.lreturn, 1, (0, 99999, 0), []), some (.lload_n 1, 1, (0, 99999, 0), []), some (.lreturn, 1, (0, 99999, 0), [])]])
def mX3_copyTo : ab_D := (yX3_copyTo, cX3_copyTo, 5, none, 3, 4, false, [
  [some (.aload_n 0, 1, (0, 99999, 0), []), some (.iload_n 2, 1, (0, 99999, 0), []), some (.iload 4, 2, (0, 99999, 0), []), none, some (.invokevirtual 40, 3, (3, 36, 2), [2040, 2033, 2034, 1006]), none, none, some (.ifCond .eq 28, 3, (0, 99999, 0), []), none, none, some (.aload_n 1, 1, (0, 99999, 0), []), some (.iload_n 3, 1, (0, 99999, 0), []), some (.iload 4, 2, (0, 99999, 0), []), none, some (.invokevirtual 40, 3, (3, 36, 2), [2040, 2033, 2034, 1006]), none],
  [none, some (.ifCond .eq 18, 3, (0, 99999, 0), []), none, none, some (.aload_n 0, 1, (0, 99999, 0), []), some (.getfield 11, 3, (1, 3, 0), [1169]), none, none, some (.iload_n 2, 1, (0, 99999, 0), []), some (.aload_n 1, 1, (0, 99999, 0), []), some (.getfield 11, 3, (1, 3, 0), [1169]), none, none, some (.iload_n 3, 1, (0, 99999, 0), []), some (.iload 4, 2, (0, 99999, 0), []), none],
  [some (.invokestatic 44, 3, (9, 99999, 0), [2041, 2043, 2042, 1009]), none, none, some (.return_, 1, (0, 99999, 0), [])]])
def mX3_whole : ab_D := (yX3_whole, cX3_whole, 2, some .long, 3, 1, false, [
  [some (.aload_n 0, 1, (0, 99999, 0), []), some (.iload_n 1, 1, (0, 99999, 0), []), some (.invokevirtual 32, 3, (3, 35, 1), [2018, 2011, 2012, 1006]), none, none, some (.ifCond .eq 12, 3, (0, 99999, 0), []), none, none, some (.aload_n 0, 1, (0, 99999, 0), []), some (.getfield 11, 3, (1, 3, 0), [1169]), none, none, some (.iload_n 1, 1, (0, 99999, 0), []), some (.laload, 1, (0, 99999, 0), []), some (.goto 4, 3, (0, 99999, 0), []), none],
  [none, some (.lconst 0, 1, (0, 99999, 0), []), some (.lreturn, 1, (0, 99999, 0), [])]])
def mX3_read : ab_D := (yX3_read, cX3_read, 2, some .int, 3, 1, false, [
  [some (.aload_n 0, 1, (0, 99999, 0), []), some (.iload_n 1, 1, (0, 99999, 0), []), some (.invokevirtual 50, 3, (3, 40, 1), [2178, 2049, 2050, 1006]), none, none, some (.l2i, 1, (0, 99999, 0), []), some (.ireturn, 1, (0, 99999, 0), [])]])
def mX3_readAll : ab_D := (yX3_readAll, cX3_readAll, 4, some .int, 3, 1, false, [
  [some (.aload_n 0, 1, (0, 99999, 0), []), some (.getfield 19, 3, (1, 3, 2), [1172]), none, none, some (.aload_n 1, 1, (0, 99999, 0), []), some (.arraylength, 1, (0, 99999, 0), []), some (.invokestatic 54, 3, (8, 99999, 0), [2171, 2172, 1010, 2173]), none, none, some (.istore_n 2, 1, (0, 99999, 0), []), some (.iconst 0, 1, (0, 99999, 0), []), some (.istore_n 3, 1, (0, 99999, 0), []), some (.iload_n 3, 1, (0, 99999, 0), []), some (.iload_n 2, 1, (0, 99999, 0), []), some (.if_icmp .ge 17, 3, (0, 99999, 0), []), none],
  [none, some (.aload_n 1, 1, (0, 99999, 0), []), some (.iload_n 3, 1, (0, 99999, 0), []), some (.aload_n 0, 1, (0, 99999, 0), []), some (.iload_n 3, 1, (0, 99999, 0), []), some (.invokevirtual 60, 3, (3, 41, 1), [2174, 2175, 2176, 1006]), none, none, some (.iastore, 1, (0, 99999, 0), []), some (.iinc 3 1, 3, (0, 99999, 0), []), none, none, some (.goto (-16), 3, (0, 99999, 0), []), none, none, some (.iload_n 2, 1, (0, 99999, 0), [])],
  [some (.ireturn, 1, (0, 99999, 0), [])]])
def mX3_first : ab_D := (yX3_first, cX3_first, 2, some .int, 3, 1, false, [
  [some (.aload_n 0, 1, (0, 99999, 0), []), some (.iconst 2, 1, (0, 99999, 0), []), some (.iload_n 1, 1, (0, 99999, 0), []), some (.imul, 1, (0, 99999, 0), []), some (.invokevirtual 60, 3, (3, 41, 1), [2174, 2175, 2176, 1006]), none, none, some (.ireturn, 1, (0, 99999, 0), [])]])
def mX3_second : ab_D := (yX3_second, cX3_second, 2, some .int, 3, 1, false, [
  [some (.aload_n 0, 1, (0, 99999, 0), []), some (.iconst 2, 1, (0, 99999, 0), []), some (.iload_n 1, 1, (0, 99999, 0), []), some (.imul, 1, (0, 99999, 0), []), some (.iconst 1, 1, (0, 99999, 0), []), some (.iadd, 1, (0, 99999, 0), []), some (.invokevirtual 60, 3, (3, 41, 1), [2174, 2175, 2176, 1006]), none, none, some (.ireturn, 1, (0, 99999, 0), [])]])
def mX4_init : ab_D := (yX4_init, cX4_init, 2, none, 4, 0, true, [
  [some (.aload_n 0, 1, (0, 99999, 0), []), some (.invokespecial 3, 3, (6, 99999, 0), [1029, 1022, 1023]), none, none, some (.aload_n 0, 1, (0, 99999, 0), []), some (.bipush 9, 2, (0, 99999, 0), []), none, some (.newarray .int, 2, (0, 99999, 0), [1099]), none, some (.putfield 11, 3, (1, 4, 0), [1030]), none, none, some (.aload_n 0, 1, (0, 99999, 0), []), some (.bipush 9, 2, (0, 99999, 0), []), none, some (.newarray .int, 2, (0, 99999, 0), [1099])],
  [none, some (.putfield 15, 3, (1, 4, 1), [1033]), none, none, some (.aload_n 0, 1, (0, 99999, 0), []), some (.bipush 9, 2, (0, 99999, 0), []), none, some (.newarray .int, 2, (0, 99999, 0), [1099]), none, some (.putfield 18, 3, (1, 4, 2), [1036]), none, none, some (.aload_n 0, 1, (0, 99999, 0), []), some (.bipush 9, 2, (0, 99999, 0), []), none, some (.newarray .int, 2, (0, 99999, 0), [1099])],
  [none, some (.putfield 21, 3, (1, 4, 3), [1038]), none, none, some (.aload_n 0, 1, (0, 99999, 0), []), some (.bipush 6, 2, (0, 99999, 0), []), none, some (.newarray .int, 2, (0, 99999, 0), [1099]), none, some (.putfield 24, 3, (1, 4, 4), [1041]), none, none, some (.aload_n 0, 1, (0, 99999, 0), []), some (.bipush 6, 2, (0, 99999, 0), []), none, some (.newarray .int, 2, (0, 99999, 0), [1099])],
  [none, some (.putfield 27, 3, (1, 4, 5), [1043]), none, none, some (.aload_n 0, 1, (0, 99999, 0), []), some (.bipush 6, 2, (0, 99999, 0), []), none, some (.newarray .int, 2, (0, 99999, 0), [1099]), none, some (.putfield 30, 3, (1, 4, 6), [1045]), none, none, some (.aload_n 0, 1, (0, 99999, 0), []), some (.bipush 6, 2, (0, 99999, 0), []), none, some (.newarray .int, 2, (0, 99999, 0), [1099])],
  [none, some (.putfield 33, 3, (1, 4, 7), [1047]), none, none, some (.aload_n 0, 1, (0, 99999, 0), []), some (.bipush 8, 2, (0, 99999, 0), []), none, some (.newarray .int, 2, (0, 99999, 0), [1099]), none, some (.putfield 36, 3, (1, 4, 8), [1049]), none, none, some (.aload_n 0, 1, (0, 99999, 0), []), some (.iconst 0, 1, (0, 99999, 0), []), some (.putfield 39, 3, (1, 4, 9), [1052]), none],
  [none, some (.aload_n 0, 1, (0, 99999, 0), []), some (.iconst 0, 1, (0, 99999, 0), []), some (.putfield 43, 3, (1, 4, 10), [1056]), none, none, some (.aload_n 0, 1, (0, 99999, 0), []), some (.iconst 0, 1, (0, 99999, 0), []), some (.putfield 46, 3, (1, 4, 11), [1059]), none, none, some (.aload_n 0, 1, (0, 99999, 0), []), some (.iconst 0, 1, (0, 99999, 0), []), some (.putfield 49, 3, (1, 4, 12), [1062]), none, none],
  [some (.aload_n 0, 1, (0, 99999, 0), []), some (.iconst 0, 1, (0, 99999, 0), []), some (.putfield 52, 3, (1, 4, 13), [1064]), none, none, some (.aload_n 0, 1, (0, 99999, 0), []), some (.iconst 1, 1, (0, 99999, 0), []), some (.putfield 55, 3, (1, 4, 14), [1066]), none, none, some (.iconst 0, 1, (0, 99999, 0), []), some (.istore_n 1, 1, (0, 99999, 0), []), some (.iload_n 1, 1, (0, 99999, 0), []), some (.bipush 8, 2, (0, 99999, 0), []), none, some (.if_icmp .ge 18, 3, (0, 99999, 0), [])],
  [none, none, some (.aload_n 0, 1, (0, 99999, 0), []), some (.getfield 36, 3, (1, 4, 8), [1049]), none, none, some (.iload_n 1, 1, (0, 99999, 0), []), some (.iload_n 1, 1, (0, 99999, 0), []), some (.iconst 5, 1, (0, 99999, 0), []), some (.iadd, 1, (0, 99999, 0), []), some (.iastore, 1, (0, 99999, 0), []), some (.iinc 1 1, 3, (0, 99999, 0), []), none, none, some (.goto (-18), 3, (0, 99999, 0), []), none],
  [none, some (.return_, 1, (0, 99999, 0), [])]])
def mX4_isKind : ab_D := (yX4_isKind, cX4_isKind, 1, some .boolean, 4, 1, false, [
  [some (.iload_n 0, 1, (0, 99999, 0), []), some (.ifCond .lt 13, 3, (0, 99999, 0), []), none, none, some (.iload_n 0, 1, (0, 99999, 0), []), some (.bipush 7, 2, (0, 99999, 0), []), none, some (.if_icmp .ge 7, 3, (0, 99999, 0), []), none, none, some (.iconst 1, 1, (0, 99999, 0), []), some (.goto 4, 3, (0, 99999, 0), []), none, none, some (.iconst 0, 1, (0, 99999, 0), []), some (.ireturn, 1, (0, 99999, 0), [])]])
def mX4_isWish : ab_D := (yX4_isWish, cX4_isWish, 1, some .boolean, 4, 1, false, [
  [some (.iload_n 0, 1, (0, 99999, 0), []), some (.ifCond .lt 13, 3, (0, 99999, 0), []), none, none, some (.iload_n 0, 1, (0, 99999, 0), []), some (.bipush 8, 2, (0, 99999, 0), []), none, some (.if_icmp .ge 7, 3, (0, 99999, 0), []), none, none, some (.iconst 1, 1, (0, 99999, 0), []), some (.goto 4, 3, (0, 99999, 0), []), none, none, some (.iconst 0, 1, (0, 99999, 0), []), some (.ireturn, 1, (0, 99999, 0), [])]])
def mX4_isAmount : ab_D := (yX4_isAmount, cX4_isAmount, 1, some .boolean, 4, 1, false, [
  [some (.iload_n 0, 1, (0, 99999, 0), []), some (.ifCond .lt 13, 3, (0, 99999, 0), []), none, none, some (.iload_n 0, 1, (0, 99999, 0), []), some (.bipush 100, 2, (0, 99999, 0), []), none, some (.if_icmp .ge 7, 3, (0, 99999, 0), []), none, none, some (.iconst 1, 1, (0, 99999, 0), []), some (.goto 4, 3, (0, 99999, 0), []), none, none, some (.iconst 0, 1, (0, 99999, 0), []), some (.ireturn, 1, (0, 99999, 0), [])]])
def mX4_isBit : ab_D := (yX4_isBit, cX4_isBit, 2, some .boolean, 4, 2, false, [
  [some (.iload_n 0, 1, (0, 99999, 0), []), some (.iload_n 1, 1, (0, 99999, 0), []), some (.ishr, 1, (0, 99999, 0), []), some (.iconst 1, 1, (0, 99999, 0), []), some (.iand, 1, (0, 99999, 0), []), some (.ifCond .eq 7, 3, (0, 99999, 0), []), none, none, some (.iconst 1, 1, (0, 99999, 0), []), some (.goto 4, 3, (0, 99999, 0), []), none, none, some (.iconst 0, 1, (0, 99999, 0), []), some (.ireturn, 1, (0, 99999, 0), [])]])
def mX4_isPiece : ab_D := (yX4_isPiece, cX4_isPiece, 2, some .boolean, 4, 1, false, [
  [some (.iload_n 1, 1, (0, 99999, 0), []), some (.ifCond .lt 15, 3, (0, 99999, 0), []), none, none, some (.iload_n 1, 1, (0, 99999, 0), []), some (.aload_n 0, 1, (0, 99999, 0), []), some (.getfield 39, 3, (1, 4, 9), [1052]), none, none, some (.if_icmp .ge 7, 3, (0, 99999, 0), []), none, none, some (.iconst 1, 1, (0, 99999, 0), []), some (.goto 4, 3, (0, 99999, 0), []), none, none],
  [some (.iconst 0, 1, (0, 99999, 0), []), some (.ireturn, 1, (0, 99999, 0), [])]])
def mX4_isPerson : ab_D := (yX4_isPerson, cX4_isPerson, 2, some .boolean, 4, 1, false, [
  [some (.iload_n 1, 1, (0, 99999, 0), []), some (.ifCond .lt 15, 3, (0, 99999, 0), []), none, none, some (.iload_n 1, 1, (0, 99999, 0), []), some (.aload_n 0, 1, (0, 99999, 0), []), some (.getfield 43, 3, (1, 4, 10), [1056]), none, none, some (.if_icmp .ge 7, 3, (0, 99999, 0), []), none, none, some (.iconst 1, 1, (0, 99999, 0), []), some (.goto 4, 3, (0, 99999, 0), []), none, none],
  [some (.iconst 0, 1, (0, 99999, 0), []), some (.ireturn, 1, (0, 99999, 0), [])]])
def mX4_hasRoomForPiece : ab_D := (yX4_hasRoomForPiece, cX4_hasRoomForPiece, 1, some .boolean, 4, 0, false, [
  [some (.aload_n 0, 1, (0, 99999, 0), []), some (.getfield 39, 3, (1, 4, 9), [1052]), none, none, some (.bipush 9, 2, (0, 99999, 0), []), none, some (.if_icmp .ge 7, 3, (0, 99999, 0), []), none, none, some (.iconst 1, 1, (0, 99999, 0), []), some (.goto 4, 3, (0, 99999, 0), []), none, none, some (.iconst 0, 1, (0, 99999, 0), []), some (.ireturn, 1, (0, 99999, 0), [])]])
def mX4_hasRoomForPerson : ab_D := (yX4_hasRoomForPerson, cX4_hasRoomForPerson, 1, some .boolean, 4, 0, false, [
  [some (.aload_n 0, 1, (0, 99999, 0), []), some (.getfield 43, 3, (1, 4, 10), [1056]), none, none, some (.bipush 6, 2, (0, 99999, 0), []), none, some (.if_icmp .ge 7, 3, (0, 99999, 0), []), none, none, some (.iconst 1, 1, (0, 99999, 0), []), some (.goto 4, 3, (0, 99999, 0), []), none, none, some (.iconst 0, 1, (0, 99999, 0), []), some (.ireturn, 1, (0, 99999, 0), [])]])
def mX4_isOfKind : ab_D := (yX4_isOfKind, cX4_isOfKind, 5, some .boolean, 4, 2, false, [
  [some (.aload_n 0, 1, (0, 99999, 0), []), some (.getfield 11, 3, (1, 4, 0), [1030]), none, none, some (.iload_n 1, 1, (0, 99999, 0), []), some (.iaload, 1, (0, 99999, 0), []), some (.istore_n 3, 1, (0, 99999, 0), []), some (.iconst 0, 1, (0, 99999, 0), []), some (.istore 4, 2, (0, 99999, 0), []), none, some (.iload 4, 2, (0, 99999, 0), []), none, some (.bipush 7, 2, (0, 99999, 0), []), none, some (.if_icmp .ge 27, 3, (0, 99999, 0), []), none],
  [none, some (.iload_n 3, 1, (0, 99999, 0), []), some (.iload_n 2, 1, (0, 99999, 0), []), some (.if_icmp .eq 22, 3, (0, 99999, 0), []), none, none, some (.iload_n 3, 1, (0, 99999, 0), []), some (.invokestatic 58, 3, (4, 46, 1), [2079, 2073, 1002]), none, none, some (.ifCond .eq 15, 3, (0, 99999, 0), []), none, none, some (.getstatic 62, 3, (13, 0, 0), [2080]), none, none],
  [some (.iload_n 3, 1, (0, 99999, 0), []), some (.iaload, 1, (0, 99999, 0), []), some (.istore_n 3, 1, (0, 99999, 0), []), some (.iinc 4 1, 3, (0, 99999, 0), []), none, none, some (.goto (-28), 3, (0, 99999, 0), []), none, none, some (.iload_n 3, 1, (0, 99999, 0), []), some (.iload_n 2, 1, (0, 99999, 0), []), some (.if_icmp .ne 7, 3, (0, 99999, 0), []), none, none, some (.iconst 1, 1, (0, 99999, 0), []), some (.goto 4, 3, (0, 99999, 0), [])],
  [none, none, some (.iconst 0, 1, (0, 99999, 0), []), some (.ireturn, 1, (0, 99999, 0), [])]])
def mX4_take : ab_D := (yX4_take, cX4_take, 2, none, 4, 1, false, [
  [some (.aload_n 1, 1, (0, 99999, 0), []), some (.getfield 11, 3, (1, 4, 0), [1030]), none, none, some (.iconst 0, 1, (0, 99999, 0), []), some (.aload_n 0, 1, (0, 99999, 0), []), some (.getfield 11, 3, (1, 4, 0), [1030]), none, none, some (.iconst 0, 1, (0, 99999, 0), []), some (.bipush 9, 2, (0, 99999, 0), []), none, some (.invokestatic 65, 3, (9, 99999, 0), [2166, 2043, 2042, 1009]), none, none, some (.aload_n 1, 1, (0, 99999, 0), [])],
  [some (.getfield 15, 3, (1, 4, 1), [1033]), none, none, some (.iconst 0, 1, (0, 99999, 0), []), some (.aload_n 0, 1, (0, 99999, 0), []), some (.getfield 15, 3, (1, 4, 1), [1033]), none, none, some (.iconst 0, 1, (0, 99999, 0), []), some (.bipush 9, 2, (0, 99999, 0), []), none, some (.invokestatic 65, 3, (9, 99999, 0), [2166, 2043, 2042, 1009]), none, none, some (.aload_n 1, 1, (0, 99999, 0), []), some (.getfield 18, 3, (1, 4, 2), [1036])],
  [none, none, some (.iconst 0, 1, (0, 99999, 0), []), some (.aload_n 0, 1, (0, 99999, 0), []), some (.getfield 18, 3, (1, 4, 2), [1036]), none, none, some (.iconst 0, 1, (0, 99999, 0), []), some (.bipush 9, 2, (0, 99999, 0), []), none, some (.invokestatic 65, 3, (9, 99999, 0), [2166, 2043, 2042, 1009]), none, none, some (.aload_n 1, 1, (0, 99999, 0), []), some (.getfield 21, 3, (1, 4, 3), [1038]), none],
  [none, some (.iconst 0, 1, (0, 99999, 0), []), some (.aload_n 0, 1, (0, 99999, 0), []), some (.getfield 21, 3, (1, 4, 3), [1038]), none, none, some (.iconst 0, 1, (0, 99999, 0), []), some (.bipush 9, 2, (0, 99999, 0), []), none, some (.invokestatic 65, 3, (9, 99999, 0), [2166, 2043, 2042, 1009]), none, none, some (.aload_n 1, 1, (0, 99999, 0), []), some (.getfield 24, 3, (1, 4, 4), [1041]), none, none],
  [some (.iconst 0, 1, (0, 99999, 0), []), some (.aload_n 0, 1, (0, 99999, 0), []), some (.getfield 24, 3, (1, 4, 4), [1041]), none, none, some (.iconst 0, 1, (0, 99999, 0), []), some (.bipush 6, 2, (0, 99999, 0), []), none, some (.invokestatic 65, 3, (9, 99999, 0), [2166, 2043, 2042, 1009]), none, none, some (.aload_n 1, 1, (0, 99999, 0), []), some (.getfield 27, 3, (1, 4, 5), [1043]), none, none, some (.iconst 0, 1, (0, 99999, 0), [])],
  [some (.aload_n 0, 1, (0, 99999, 0), []), some (.getfield 27, 3, (1, 4, 5), [1043]), none, none, some (.iconst 0, 1, (0, 99999, 0), []), some (.bipush 6, 2, (0, 99999, 0), []), none, some (.invokestatic 65, 3, (9, 99999, 0), [2166, 2043, 2042, 1009]), none, none, some (.aload_n 1, 1, (0, 99999, 0), []), some (.getfield 30, 3, (1, 4, 6), [1045]), none, none, some (.iconst 0, 1, (0, 99999, 0), []), some (.aload_n 0, 1, (0, 99999, 0), [])],
  [some (.getfield 30, 3, (1, 4, 6), [1045]), none, none, some (.iconst 0, 1, (0, 99999, 0), []), some (.bipush 6, 2, (0, 99999, 0), []), none, some (.invokestatic 65, 3, (9, 99999, 0), [2166, 2043, 2042, 1009]), none, none, some (.aload_n 1, 1, (0, 99999, 0), []), some (.getfield 33, 3, (1, 4, 7), [1047]), none, none, some (.iconst 0, 1, (0, 99999, 0), []), some (.aload_n 0, 1, (0, 99999, 0), []), some (.getfield 33, 3, (1, 4, 7), [1047])],
  [none, none, some (.iconst 0, 1, (0, 99999, 0), []), some (.bipush 6, 2, (0, 99999, 0), []), none, some (.invokestatic 65, 3, (9, 99999, 0), [2166, 2043, 2042, 1009]), none, none, some (.aload_n 1, 1, (0, 99999, 0), []), some (.getfield 36, 3, (1, 4, 8), [1049]), none, none, some (.iconst 0, 1, (0, 99999, 0), []), some (.aload_n 0, 1, (0, 99999, 0), []), some (.getfield 36, 3, (1, 4, 8), [1049]), none],
  [none, some (.iconst 0, 1, (0, 99999, 0), []), some (.bipush 8, 2, (0, 99999, 0), []), none, some (.invokestatic 65, 3, (9, 99999, 0), [2166, 2043, 2042, 1009]), none, none, some (.aload_n 0, 1, (0, 99999, 0), []), some (.aload_n 1, 1, (0, 99999, 0), []), some (.getfield 39, 3, (1, 4, 9), [1052]), none, none, some (.putfield 39, 3, (1, 4, 9), [1052]), none, none, some (.aload_n 0, 1, (0, 99999, 0), [])],
  [some (.aload_n 1, 1, (0, 99999, 0), []), some (.getfield 43, 3, (1, 4, 10), [1056]), none, none, some (.putfield 43, 3, (1, 4, 10), [1056]), none, none, some (.aload_n 0, 1, (0, 99999, 0), []), some (.aload_n 1, 1, (0, 99999, 0), []), some (.getfield 46, 3, (1, 4, 11), [1059]), none, none, some (.putfield 46, 3, (1, 4, 11), [1059]), none, none, some (.aload_n 0, 1, (0, 99999, 0), [])],
  [some (.aload_n 1, 1, (0, 99999, 0), []), some (.getfield 49, 3, (1, 4, 12), [1062]), none, none, some (.putfield 49, 3, (1, 4, 12), [1062]), none, none, some (.aload_n 0, 1, (0, 99999, 0), []), some (.aload_n 1, 1, (0, 99999, 0), []), some (.getfield 52, 3, (1, 4, 13), [1064]), none, none, some (.putfield 52, 3, (1, 4, 13), [1064]), none, none, some (.aload_n 0, 1, (0, 99999, 0), [])],
  [some (.aload_n 1, 1, (0, 99999, 0), []), some (.getfield 55, 3, (1, 4, 14), [1066]), none, none, some (.putfield 55, 3, (1, 4, 14), [1066]), none, none, some (.return_, 1, (0, 99999, 0), [])]])
def mX4_addPiece : ab_D := (yX4_addPiece, cX4_addPiece, 5, some .int, 4, 3, false, [
  [some (.aload_n 0, 1, (0, 99999, 0), []), some (.invokevirtual 71, 3, (3, 52, 0), [2105, 2098, 2099, 1002]), none, none, some (.ifCond .ne 5, 3, (0, 99999, 0), []), none, none, some (.iconst (-1), 1, (0, 99999, 0), []), some (.ireturn, 1, (0, 99999, 0), []), some (.aload_n 0, 1, (0, 99999, 0), []), some (.getfield 39, 3, (1, 4, 9), [1052]), none, none, some (.istore 4, 2, (0, 99999, 0), []), none, some (.aload_n 0, 1, (0, 99999, 0), [])],
  [some (.getfield 11, 3, (1, 4, 0), [1030]), none, none, some (.iload 4, 2, (0, 99999, 0), []), none, some (.iload_n 1, 1, (0, 99999, 0), []), some (.iastore, 1, (0, 99999, 0), []), some (.aload_n 0, 1, (0, 99999, 0), []), some (.getfield 15, 3, (1, 4, 1), [1033]), none, none, some (.iload 4, 2, (0, 99999, 0), []), none, some (.iload_n 2, 1, (0, 99999, 0), []), some (.iastore, 1, (0, 99999, 0), []), some (.aload_n 0, 1, (0, 99999, 0), [])],
  [some (.getfield 18, 3, (1, 4, 2), [1036]), none, none, some (.iload 4, 2, (0, 99999, 0), []), none, some (.iload_n 3, 1, (0, 99999, 0), []), some (.iastore, 1, (0, 99999, 0), []), some (.aload_n 0, 1, (0, 99999, 0), []), some (.getfield 21, 3, (1, 4, 3), [1038]), none, none, some (.iload 4, 2, (0, 99999, 0), []), none, some (.bipush 99, 2, (0, 99999, 0), []), none, some (.iastore, 1, (0, 99999, 0), [])],
  [some (.aload_n 0, 1, (0, 99999, 0), []), some (.dup, 1, (0, 99999, 0), []), some (.getfield 39, 3, (1, 4, 9), [1052]), none, none, some (.iconst 1, 1, (0, 99999, 0), []), some (.iadd, 1, (0, 99999, 0), []), some (.putfield 39, 3, (1, 4, 9), [1052]), none, none, some (.iload 4, 2, (0, 99999, 0), []), none, some (.ireturn, 1, (0, 99999, 0), [])]])
def mX4_addPerson : ab_D := (yX4_addPerson, cX4_addPerson, 5, some .int, 4, 3, false, [
  [some (.aload_n 0, 1, (0, 99999, 0), []), some (.invokevirtual 75, 3, (3, 53, 0), [2121, 2114, 2115, 1002]), none, none, some (.ifCond .ne 5, 3, (0, 99999, 0), []), none, none, some (.iconst (-1), 1, (0, 99999, 0), []), some (.ireturn, 1, (0, 99999, 0), []), some (.aload_n 0, 1, (0, 99999, 0), []), some (.getfield 43, 3, (1, 4, 10), [1056]), none, none, some (.istore 4, 2, (0, 99999, 0), []), none, some (.aload_n 0, 1, (0, 99999, 0), [])],
  [some (.getfield 24, 3, (1, 4, 4), [1041]), none, none, some (.iload 4, 2, (0, 99999, 0), []), none, some (.iload_n 1, 1, (0, 99999, 0), []), some (.iastore, 1, (0, 99999, 0), []), some (.aload_n 0, 1, (0, 99999, 0), []), some (.getfield 27, 3, (1, 4, 5), [1043]), none, none, some (.iload 4, 2, (0, 99999, 0), []), none, some (.iload_n 2, 1, (0, 99999, 0), []), some (.iastore, 1, (0, 99999, 0), []), some (.aload_n 0, 1, (0, 99999, 0), [])],
  [some (.getfield 30, 3, (1, 4, 6), [1045]), none, none, some (.iload 4, 2, (0, 99999, 0), []), none, some (.iload_n 3, 1, (0, 99999, 0), []), some (.iastore, 1, (0, 99999, 0), []), some (.aload_n 0, 1, (0, 99999, 0), []), some (.getfield 33, 3, (1, 4, 7), [1047]), none, none, some (.iload 4, 2, (0, 99999, 0), []), none, some (.iconst 0, 1, (0, 99999, 0), []), some (.iastore, 1, (0, 99999, 0), []), some (.aload_n 0, 1, (0, 99999, 0), [])],
  [some (.dup, 1, (0, 99999, 0), []), some (.getfield 43, 3, (1, 4, 10), [1056]), none, none, some (.iconst 1, 1, (0, 99999, 0), []), some (.iadd, 1, (0, 99999, 0), []), some (.putfield 43, 3, (1, 4, 10), [1056]), none, none, some (.iload 4, 2, (0, 99999, 0), []), none, some (.ireturn, 1, (0, 99999, 0), [])]])
def mX4_worthOf : ab_D := (yX4_worthOf, cX4_worthOf, 4, some .int, 4, 1, false, [
  [some (.aload_n 0, 1, (0, 99999, 0), []), some (.getfield 18, 3, (1, 4, 2), [1036]), none, none, some (.iload_n 1, 1, (0, 99999, 0), []), some (.iaload, 1, (0, 99999, 0), []), some (.iconst 1, 1, (0, 99999, 0), []), some (.iadd, 1, (0, 99999, 0), []), some (.iconst 2, 1, (0, 99999, 0), []), some (.idiv, 1, (0, 99999, 0), []), some (.istore_n 2, 1, (0, 99999, 0), []), some (.aload_n 0, 1, (0, 99999, 0), []), some (.getfield 18, 3, (1, 4, 2), [1036]), none, none, some (.iload_n 1, 1, (0, 99999, 0), [])],
  [some (.iaload, 1, (0, 99999, 0), []), some (.aload_n 0, 1, (0, 99999, 0), []), some (.getfield 15, 3, (1, 4, 1), [1033]), none, none, some (.iload_n 1, 1, (0, 99999, 0), []), some (.iaload, 1, (0, 99999, 0), []), some (.iadd, 1, (0, 99999, 0), []), some (.istore_n 3, 1, (0, 99999, 0), []), some (.aload_n 0, 1, (0, 99999, 0), []), some (.getfield 11, 3, (1, 4, 0), [1030]), none, none, some (.iload_n 1, 1, (0, 99999, 0), []), some (.iaload, 1, (0, 99999, 0), []), some (.tableswitch 71 1 6 #[37, 52, 39, 60, 54, 62], 37, (0, 99999, 0), [])],
  [none, none, none, none, none, none, none, none, none, none, none, none, none, none, none, none],
  [none, none, none, none, none, none, none, none, none, none, none, none, none, none, none, none],
  [none, none, none, none, some (.iload_n 2, 1, (0, 99999, 0), []), some (.ireturn, 1, (0, 99999, 0), []), some (.iload_n 2, 1, (0, 99999, 0), []), some (.aload_n 0, 1, (0, 99999, 0), []), some (.getfield 15, 3, (1, 4, 1), [1033]), none, none, some (.iload_n 1, 1, (0, 99999, 0), []), some (.iaload, 1, (0, 99999, 0), []), some (.isub, 1, (0, 99999, 0), []), some (.iconst 1, 1, (0, 99999, 0), []), some (.invokestatic 78, 3, (7, 99999, 0), [2090, 2091, 1010, 2092])],
  [none, none, some (.ireturn, 1, (0, 99999, 0), []), some (.iload_n 3, 1, (0, 99999, 0), []), some (.ireturn, 1, (0, 99999, 0), []), some (.iload_n 3, 1, (0, 99999, 0), []), some (.iconst 1, 1, (0, 99999, 0), []), some (.iadd, 1, (0, 99999, 0), []), some (.iconst 2, 1, (0, 99999, 0), []), some (.idiv, 1, (0, 99999, 0), []), some (.ireturn, 1, (0, 99999, 0), []), some (.iconst 1, 1, (0, 99999, 0), []), some (.ireturn, 1, (0, 99999, 0), []), some (.iconst 1, 1, (0, 99999, 0), []), some (.aload_n 0, 1, (0, 99999, 0), []), some (.getfield 15, 3, (1, 4, 1), [1033])],
  [none, none, some (.iload_n 1, 1, (0, 99999, 0), []), some (.iaload, 1, (0, 99999, 0), []), some (.iadd, 1, (0, 99999, 0), []), some (.ireturn, 1, (0, 99999, 0), []), some (.aload_n 0, 1, (0, 99999, 0), []), some (.getfield 18, 3, (1, 4, 2), [1036]), none, none, some (.iload_n 1, 1, (0, 99999, 0), []), some (.iaload, 1, (0, 99999, 0), []), some (.ireturn, 1, (0, 99999, 0), [])]])
def mX4_harmOf : ab_D := (yX4_harmOf, cX4_harmOf, 2, some .int, 4, 1, false, [
  [some (.aload_n 0, 1, (0, 99999, 0), []), some (.getfield 11, 3, (1, 4, 0), [1030]), none, none, some (.iload_n 1, 1, (0, 99999, 0), []), some (.iaload, 1, (0, 99999, 0), []), some (.tableswitch 48 1 4 #[30, 48, 37, 46], 30, (0, 99999, 0), []), none, none, none, none, none, none, none, none, none],
  [none, none, none, none, none, none, none, none, none, none, none, none, none, none, none, none],
  [none, none, none, none, some (.aload_n 0, 1, (0, 99999, 0), []), some (.getfield 15, 3, (1, 4, 1), [1033]), none, none, some (.iload_n 1, 1, (0, 99999, 0), []), some (.iaload, 1, (0, 99999, 0), []), some (.ireturn, 1, (0, 99999, 0), []), some (.iconst 2, 1, (0, 99999, 0), []), some (.aload_n 0, 1, (0, 99999, 0), []), some (.getfield 15, 3, (1, 4, 1), [1033]), none, none],
  [some (.iload_n 1, 1, (0, 99999, 0), []), some (.iaload, 1, (0, 99999, 0), []), some (.imul, 1, (0, 99999, 0), []), some (.ireturn, 1, (0, 99999, 0), []), some (.iconst 1, 1, (0, 99999, 0), []), some (.ireturn, 1, (0, 99999, 0), []), some (.iconst 0, 1, (0, 99999, 0), []), some (.ireturn, 1, (0, 99999, 0), [])]])
def mX4_worthOfBits : ab_D := (yX4_worthOfBits, cX4_worthOfBits, 4, some .int, 4, 1, false, [
  [some (.iconst 0, 1, (0, 99999, 0), []), some (.istore_n 2, 1, (0, 99999, 0), []), some (.iconst 0, 1, (0, 99999, 0), []), some (.istore_n 3, 1, (0, 99999, 0), []), some (.iload_n 3, 1, (0, 99999, 0), []), some (.aload_n 0, 1, (0, 99999, 0), []), some (.getfield 39, 3, (1, 4, 9), [1052]), none, none, some (.if_icmp .ge 29, 3, (0, 99999, 0), []), none, none, some (.iload_n 2, 1, (0, 99999, 0), []), some (.iload_n 1, 1, (0, 99999, 0), []), some (.iload_n 3, 1, (0, 99999, 0), []), some (.invokestatic 84, 3, (4, 49, 2), [3104, 3105, 1002])],
  [none, none, some (.ifCond .eq 11, 3, (0, 99999, 0), []), none, none, some (.aload_n 0, 1, (0, 99999, 0), []), some (.iload_n 3, 1, (0, 99999, 0), []), some (.invokevirtual 88, 3, (3, 58, 1), [3103, 2087, 2088, 1002]), none, none, some (.goto 4, 3, (0, 99999, 0), []), none, none, some (.iconst 0, 1, (0, 99999, 0), []), some (.iadd, 1, (0, 99999, 0), []), some (.istore_n 2, 1, (0, 99999, 0), [])],
  [some (.iinc 3 1, 3, (0, 99999, 0), []), none, none, some (.goto (-31), 3, (0, 99999, 0), []), none, none, some (.iload_n 2, 1, (0, 99999, 0), []), some (.ireturn, 1, (0, 99999, 0), [])]])
def mX4_harmOfBits : ab_D := (yX4_harmOfBits, cX4_harmOfBits, 4, some .int, 4, 1, false, [
  [some (.iconst 0, 1, (0, 99999, 0), []), some (.istore_n 2, 1, (0, 99999, 0), []), some (.iconst 0, 1, (0, 99999, 0), []), some (.istore_n 3, 1, (0, 99999, 0), []), some (.iload_n 3, 1, (0, 99999, 0), []), some (.aload_n 0, 1, (0, 99999, 0), []), some (.getfield 39, 3, (1, 4, 9), [1052]), none, none, some (.if_icmp .ge 29, 3, (0, 99999, 0), []), none, none, some (.iload_n 2, 1, (0, 99999, 0), []), some (.iload_n 1, 1, (0, 99999, 0), []), some (.iload_n 3, 1, (0, 99999, 0), []), some (.invokestatic 84, 3, (4, 49, 2), [3104, 3105, 1002])],
  [none, none, some (.ifCond .eq 11, 3, (0, 99999, 0), []), none, none, some (.aload_n 0, 1, (0, 99999, 0), []), some (.iload_n 3, 1, (0, 99999, 0), []), some (.invokevirtual 92, 3, (3, 59, 1), [3140, 2083, 2084, 1002]), none, none, some (.goto 4, 3, (0, 99999, 0), []), none, none, some (.iconst 0, 1, (0, 99999, 0), []), some (.iadd, 1, (0, 99999, 0), []), some (.istore_n 2, 1, (0, 99999, 0), [])],
  [some (.iinc 3 1, 3, (0, 99999, 0), []), none, none, some (.goto (-31), 3, (0, 99999, 0), []), none, none, some (.iload_n 2, 1, (0, 99999, 0), []), some (.ireturn, 1, (0, 99999, 0), [])]])
def mX4_bitsAt : ab_D := (yX4_bitsAt, cX4_bitsAt, 4, some .int, 4, 1, false, [
  [some (.iconst 0, 1, (0, 99999, 0), []), some (.istore_n 2, 1, (0, 99999, 0), []), some (.iconst 0, 1, (0, 99999, 0), []), some (.istore_n 3, 1, (0, 99999, 0), []), some (.iload_n 3, 1, (0, 99999, 0), []), some (.aload_n 0, 1, (0, 99999, 0), []), some (.getfield 39, 3, (1, 4, 9), [1052]), none, none, some (.if_icmp .ge 29, 3, (0, 99999, 0), []), none, none, some (.iload_n 2, 1, (0, 99999, 0), []), some (.aload_n 0, 1, (0, 99999, 0), []), some (.getfield 21, 3, (1, 4, 3), [1038]), none],
  [none, some (.iload_n 3, 1, (0, 99999, 0), []), some (.iaload, 1, (0, 99999, 0), []), some (.iload_n 1, 1, (0, 99999, 0), []), some (.if_icmp .ne 9, 3, (0, 99999, 0), []), none, none, some (.iconst 1, 1, (0, 99999, 0), []), some (.iload_n 3, 1, (0, 99999, 0), []), some (.ishl, 1, (0, 99999, 0), []), some (.goto 4, 3, (0, 99999, 0), []), none, none, some (.iconst 0, 1, (0, 99999, 0), []), some (.ior, 1, (0, 99999, 0), []), some (.istore_n 2, 1, (0, 99999, 0), [])],
  [some (.iinc 3 1, 3, (0, 99999, 0), []), none, none, some (.goto (-31), 3, (0, 99999, 0), []), none, none, some (.iload_n 2, 1, (0, 99999, 0), []), some (.ireturn, 1, (0, 99999, 0), [])]])
def mX4_basin : ab_D := (yX4_basin, cX4_basin, 1, some .int, 4, 0, false, [
  [some (.aload_n 0, 1, (0, 99999, 0), []), some (.bipush 99, 2, (0, 99999, 0), []), none, some (.invokevirtual 95, 3, (3, 62, 1), [3098, 2151, 2152, 1002]), none, none, some (.ireturn, 1, (0, 99999, 0), [])]])
def mX4_wanting : ab_D := (yX4_wanting, cX4_wanting, 4, some .int, 4, 1, false, [
  [some (.iconst 0, 1, (0, 99999, 0), []), some (.istore_n 2, 1, (0, 99999, 0), []), some (.iconst 0, 1, (0, 99999, 0), []), some (.istore_n 3, 1, (0, 99999, 0), []), some (.iload_n 3, 1, (0, 99999, 0), []), some (.aload_n 0, 1, (0, 99999, 0), []), some (.getfield 43, 3, (1, 4, 10), [1056]), none, none, some (.if_icmp .ge 27, 3, (0, 99999, 0), []), none, none, some (.iload_n 2, 1, (0, 99999, 0), []), some (.aload_n 0, 1, (0, 99999, 0), []), some (.getfield 30, 3, (1, 4, 6), [1045]), none],
  [none, some (.iload_n 3, 1, (0, 99999, 0), []), some (.iaload, 1, (0, 99999, 0), []), some (.iload_n 1, 1, (0, 99999, 0), []), some (.if_icmp .ne 7, 3, (0, 99999, 0), []), none, none, some (.iconst 1, 1, (0, 99999, 0), []), some (.goto 4, 3, (0, 99999, 0), []), none, none, some (.iconst 0, 1, (0, 99999, 0), []), some (.iadd, 1, (0, 99999, 0), []), some (.istore_n 2, 1, (0, 99999, 0), []), some (.iinc 3 1, 3, (0, 99999, 0), []), none],
  [none, some (.goto (-29), 3, (0, 99999, 0), []), none, none, some (.iload_n 2, 1, (0, 99999, 0), []), some (.ireturn, 1, (0, 99999, 0), [])]])
def mX4_grantedTogether : ab_D := (yX4_grantedTogether, cX4_grantedTogether, 3, some .int, 4, 0, false, [
  [some (.iconst 0, 1, (0, 99999, 0), []), some (.istore_n 1, 1, (0, 99999, 0), []), some (.iconst 0, 1, (0, 99999, 0), []), some (.istore_n 2, 1, (0, 99999, 0), []), some (.iload_n 2, 1, (0, 99999, 0), []), some (.aload_n 0, 1, (0, 99999, 0), []), some (.getfield 43, 3, (1, 4, 10), [1056]), none, none, some (.if_icmp .ge 18, 3, (0, 99999, 0), []), none, none, some (.iload_n 1, 1, (0, 99999, 0), []), some (.aload_n 0, 1, (0, 99999, 0), []), some (.getfield 33, 3, (1, 4, 7), [1047]), none],
  [none, some (.iload_n 2, 1, (0, 99999, 0), []), some (.iaload, 1, (0, 99999, 0), []), some (.iadd, 1, (0, 99999, 0), []), some (.istore_n 1, 1, (0, 99999, 0), []), some (.iinc 2 1, 3, (0, 99999, 0), []), none, none, some (.goto (-20), 3, (0, 99999, 0), []), none, none, some (.iload_n 1, 1, (0, 99999, 0), []), some (.ireturn, 1, (0, 99999, 0), [])]])
def mX4_priceFor : ab_D := (yX4_priceFor, cX4_priceFor, 3, some .int, 4, 2, false, [
  [some (.aload_n 0, 1, (0, 99999, 0), []), some (.iload_n 1, 1, (0, 99999, 0), []), some (.iload_n 2, 1, (0, 99999, 0), []), some (.aload_n 0, 1, (0, 99999, 0), []), some (.getfield 36, 3, (1, 4, 8), [1049]), none, none, some (.iload_n 2, 1, (0, 99999, 0), []), some (.iaload, 1, (0, 99999, 0), []), some (.invokevirtual 98, 3, (3, 67, 3), [3068, 3069, 3070, 1002]), none, none, some (.ireturn, 1, (0, 99999, 0), [])]])
def mX4_priceByCost : ab_D := (yX4_priceByCost, cX4_priceByCost, 5, some .int, 4, 3, false, [
  [some (.aload_n 0, 1, (0, 99999, 0), []), some (.iload_n 2, 1, (0, 99999, 0), []), some (.invokevirtual 102, 3, (3, 64, 1), [3072, 3073, 3074, 1002]), none, none, some (.aload_n 0, 1, (0, 99999, 0), []), some (.getfield 30, 3, (1, 4, 6), [1045]), none, none, some (.iload_n 1, 1, (0, 99999, 0), []), some (.iaload, 1, (0, 99999, 0), []), some (.iload_n 2, 1, (0, 99999, 0), []), some (.if_icmp .ne 7, 3, (0, 99999, 0), []), none, none, some (.iconst 1, 1, (0, 99999, 0), [])],
  [some (.goto 4, 3, (0, 99999, 0), []), none, none, some (.iconst 0, 1, (0, 99999, 0), []), some (.isub, 1, (0, 99999, 0), []), some (.istore 4, 2, (0, 99999, 0), []), none, some (.iload_n 3, 1, (0, 99999, 0), []), some (.iconst 2, 1, (0, 99999, 0), []), some (.iload 4, 2, (0, 99999, 0), []), none, some (.imul, 1, (0, 99999, 0), []), some (.iadd, 1, (0, 99999, 0), []), some (.aload_n 0, 1, (0, 99999, 0), []), some (.getfield 27, 3, (1, 4, 5), [1043]), none],
  [none, some (.iload_n 1, 1, (0, 99999, 0), []), some (.iaload, 1, (0, 99999, 0), []), some (.isub, 1, (0, 99999, 0), []), some (.iconst 1, 1, (0, 99999, 0), []), some (.invokestatic 78, 3, (7, 99999, 0), [2090, 2091, 1010, 2092]), none, none, some (.ireturn, 1, (0, 99999, 0), [])]])
def mX4_bestThrow : ab_D := (yX4_bestThrow, cX4_bestThrow, 3, some .int, 4, 1, false, [
  [some (.aload_n 0, 1, (0, 99999, 0), []), some (.iload_n 1, 1, (0, 99999, 0), []), some (.aload_n 0, 1, (0, 99999, 0), []), some (.getfield 30, 3, (1, 4, 6), [1045]), none, none, some (.iload_n 1, 1, (0, 99999, 0), []), some (.iaload, 1, (0, 99999, 0), []), some (.invokevirtual 105, 3, (3, 66, 2), [3149, 3065, 3066, 1002]), none, none, some (.istore_n 2, 1, (0, 99999, 0), []), some (.iload_n 2, 1, (0, 99999, 0), []), some (.aload_n 0, 1, (0, 99999, 0), []), some (.getfield 24, 3, (1, 4, 4), [1041]), none],
  [none, some (.iload_n 1, 1, (0, 99999, 0), []), some (.iaload, 1, (0, 99999, 0), []), some (.if_icmp .gt 7, 3, (0, 99999, 0), []), none, none, some (.iload_n 2, 1, (0, 99999, 0), []), some (.goto 4, 3, (0, 99999, 0), []), none, none, some (.iconst (-1), 1, (0, 99999, 0), []), some (.ireturn, 1, (0, 99999, 0), [])]])
def mX4_greedyFor : ab_D := (yX4_greedyFor, cX4_greedyFor, 7, some .int, 4, 1, false, [
  [some (.iload_n 1, 1, (0, 99999, 0), []), some (.istore_n 2, 1, (0, 99999, 0), []), some (.aload_n 0, 1, (0, 99999, 0), []), some (.invokevirtual 108, 3, (3, 63, 0), [3094, 3095, 3096, 1002]), none, none, some (.istore_n 3, 1, (0, 99999, 0), []), some (.iconst 0, 1, (0, 99999, 0), []), some (.istore 4, 2, (0, 99999, 0), []), none, some (.iconst 0, 1, (0, 99999, 0), []), some (.istore 5, 2, (0, 99999, 0), []), none, some (.iload 5, 2, (0, 99999, 0), []), none, some (.bipush 9, 2, (0, 99999, 0), [])],
  [none, some (.if_icmp .ge 54, 3, (0, 99999, 0), []), none, none, some (.iload_n 2, 1, (0, 99999, 0), []), some (.ifCond .le 50, 3, (0, 99999, 0), []), none, none, some (.aload_n 0, 1, (0, 99999, 0), []), some (.iload_n 2, 1, (0, 99999, 0), []), some (.iload_n 3, 1, (0, 99999, 0), []), some (.invokevirtual 112, 3, (3, 70, 2), [3099, 3101, 17, 1002]), none, none, some (.istore 6, 2, (0, 99999, 0), []), none],
  [some (.iload 6, 2, (0, 99999, 0), []), none, some (.iconst (-1), 1, (0, 99999, 0), []), some (.if_icmp .ne 5, 3, (0, 99999, 0), []), none, none, some (.iconst (-1), 1, (0, 99999, 0), []), some (.ireturn, 1, (0, 99999, 0), []), some (.iload 4, 2, (0, 99999, 0), []), none, some (.iconst 1, 1, (0, 99999, 0), []), some (.iload 6, 2, (0, 99999, 0), []), none, some (.ishl, 1, (0, 99999, 0), []), some (.ior, 1, (0, 99999, 0), []), some (.istore 4, 2, (0, 99999, 0), [])],
  [none, some (.iload_n 3, 1, (0, 99999, 0), []), some (.iload 4, 2, (0, 99999, 0), []), none, some (.iconst (-1), 1, (0, 99999, 0), []), some (.ixor, 1, (0, 99999, 0), []), some (.iand, 1, (0, 99999, 0), []), some (.istore_n 3, 1, (0, 99999, 0), []), some (.iload_n 2, 1, (0, 99999, 0), []), some (.aload_n 0, 1, (0, 99999, 0), []), some (.iload 6, 2, (0, 99999, 0), []), none, some (.invokevirtual 88, 3, (3, 58, 1), [3103, 2087, 2088, 1002]), none, none, some (.isub, 1, (0, 99999, 0), [])],
  [some (.istore_n 2, 1, (0, 99999, 0), []), some (.iinc 5 1, 3, (0, 99999, 0), []), none, none, some (.goto (-55), 3, (0, 99999, 0), []), none, none, some (.iload_n 2, 1, (0, 99999, 0), []), some (.ifCond .ne 8, 3, (0, 99999, 0), []), none, none, some (.iload 4, 2, (0, 99999, 0), []), none, some (.goto 4, 3, (0, 99999, 0), []), none, none],
  [some (.iconst (-1), 1, (0, 99999, 0), []), some (.ireturn, 1, (0, 99999, 0), [])]])
def mX4_greatestUpTo : ab_D := (yX4_greatestUpTo, cX4_greatestUpTo, 7, some .int, 4, 2, false, [
  [some (.iconst (-1), 1, (0, 99999, 0), []), some (.istore_n 3, 1, (0, 99999, 0), []), some (.iconst 0, 1, (0, 99999, 0), []), some (.istore 4, 2, (0, 99999, 0), []), none, some (.iconst 0, 1, (0, 99999, 0), []), some (.istore 5, 2, (0, 99999, 0), []), none, some (.iload 5, 2, (0, 99999, 0), []), none, some (.aload_n 0, 1, (0, 99999, 0), []), some (.getfield 39, 3, (1, 4, 9), [1052]), none, none, some (.if_icmp .ge 46, 3, (0, 99999, 0), []), none],
  [none, some (.aload_n 0, 1, (0, 99999, 0), []), some (.iload 5, 2, (0, 99999, 0), []), none, some (.invokevirtual 88, 3, (3, 58, 1), [3103, 2087, 2088, 1002]), none, none, some (.istore 6, 2, (0, 99999, 0), []), none, some (.iload_n 2, 1, (0, 99999, 0), []), some (.iload 5, 2, (0, 99999, 0), []), none, some (.invokestatic 84, 3, (4, 49, 2), [3104, 3105, 1002]), none, none, some (.ifCond .eq 23, 3, (0, 99999, 0), [])],
  [none, none, some (.iload 6, 2, (0, 99999, 0), []), none, some (.iload_n 1, 1, (0, 99999, 0), []), some (.if_icmp .gt 17, 3, (0, 99999, 0), []), none, none, some (.iload 6, 2, (0, 99999, 0), []), none, some (.iload 4, 2, (0, 99999, 0), []), none, some (.if_icmp .le 10, 3, (0, 99999, 0), []), none, none, some (.iload 6, 2, (0, 99999, 0), [])],
  [none, some (.istore 4, 2, (0, 99999, 0), []), none, some (.iload 5, 2, (0, 99999, 0), []), none, some (.istore_n 3, 1, (0, 99999, 0), []), some (.iinc 5 1, 3, (0, 99999, 0), []), none, none, some (.goto (-49), 3, (0, 99999, 0), []), none, none, some (.iload_n 3, 1, (0, 99999, 0), []), some (.ireturn, 1, (0, 99999, 0), [])]])
def mX4_grant : ab_D := (yX4_grant, cX4_grant, 5, none, 4, 3, false, [
  [some (.aload_n 0, 1, (0, 99999, 0), []), some (.getfield 24, 3, (1, 4, 4), [1041]), none, none, some (.iload_n 1, 1, (0, 99999, 0), []), some (.dup2, 1, (0, 99999, 0), []), some (.iaload, 1, (0, 99999, 0), []), some (.iload_n 2, 1, (0, 99999, 0), []), some (.isub, 1, (0, 99999, 0), []), some (.iastore, 1, (0, 99999, 0), []), some (.aload_n 0, 1, (0, 99999, 0), []), some (.getfield 33, 3, (1, 4, 7), [1047]), none, none, some (.iload_n 1, 1, (0, 99999, 0), []), some (.dup2, 1, (0, 99999, 0), [])],
  [some (.iaload, 1, (0, 99999, 0), []), some (.iconst 1, 1, (0, 99999, 0), []), some (.iadd, 1, (0, 99999, 0), []), some (.iastore, 1, (0, 99999, 0), []), some (.aload_n 0, 1, (0, 99999, 0), []), some (.dup, 1, (0, 99999, 0), []), some (.getfield 49, 3, (1, 4, 12), [1062]), none, none, some (.iload_n 2, 1, (0, 99999, 0), []), some (.iadd, 1, (0, 99999, 0), []), some (.putfield 49, 3, (1, 4, 12), [1062]), none, none, some (.iconst 0, 1, (0, 99999, 0), []), some (.istore 4, 2, (0, 99999, 0), [])],
  [none, some (.iload 4, 2, (0, 99999, 0), []), none, some (.aload_n 0, 1, (0, 99999, 0), []), some (.getfield 39, 3, (1, 4, 9), [1052]), none, none, some (.if_icmp .ge 26, 3, (0, 99999, 0), []), none, none, some (.iload_n 3, 1, (0, 99999, 0), []), some (.iload 4, 2, (0, 99999, 0), []), none, some (.invokestatic 84, 3, (4, 49, 2), [3104, 3105, 1002]), none, none],
  [some (.ifCond .eq 11, 3, (0, 99999, 0), []), none, none, some (.aload_n 0, 1, (0, 99999, 0), []), some (.getfield 21, 3, (1, 4, 3), [1038]), none, none, some (.iload 4, 2, (0, 99999, 0), []), none, some (.iload_n 1, 1, (0, 99999, 0), []), some (.iastore, 1, (0, 99999, 0), []), some (.iinc 4 1, 3, (0, 99999, 0), []), none, none, some (.goto (-29), 3, (0, 99999, 0), []), none],
  [none, some (.return_, 1, (0, 99999, 0), [])]])
def mX4_draw : ab_D := (yX4_draw, cX4_draw, 2, some .int, 4, 1, false, [
  [some (.iload_n 1, 1, (0, 99999, 0), []), some (.iconst 1, 1, (0, 99999, 0), []), some (.if_icmp .ge 5, 3, (0, 99999, 0), []), none, none, some (.iconst 0, 1, (0, 99999, 0), []), some (.ireturn, 1, (0, 99999, 0), []), some (.aload_n 0, 1, (0, 99999, 0), []), some (.aload_n 0, 1, (0, 99999, 0), []), some (.getfield 55, 3, (1, 4, 14), [1066]), none, none, some (.ldc 115, 2, (10, 1103515245, 0), [4027]), none, some (.imul, 1, (0, 99999, 0), []), some (.sipush 12345, 3, (0, 99999, 0), [])],
  [none, none, some (.iadd, 1, (0, 99999, 0), []), some (.putfield 55, 3, (1, 4, 14), [1066]), none, none, some (.aload_n 0, 1, (0, 99999, 0), []), some (.getfield 55, 3, (1, 4, 14), [1066]), none, none, some (.bipush 16, 2, (0, 99999, 0), []), none, some (.iushr, 1, (0, 99999, 0), []), some (.iload_n 1, 1, (0, 99999, 0), []), some (.irem, 1, (0, 99999, 0), []), some (.ireturn, 1, (0, 99999, 0), [])]])
def mX4_drawDay : ab_D := (yX4_drawDay, cX4_drawDay, 3, none, 4, 0, false, [
  [some (.aload_n 0, 1, (0, 99999, 0), []), some (.dup, 1, (0, 99999, 0), []), some (.getfield 52, 3, (1, 4, 13), [1064]), none, none, some (.iconst 1, 1, (0, 99999, 0), []), some (.iadd, 1, (0, 99999, 0), []), some (.putfield 52, 3, (1, 4, 13), [1064]), none, none, some (.aload_n 0, 1, (0, 99999, 0), []), some (.aload_n 0, 1, (0, 99999, 0), []), some (.getfield 43, 3, (1, 4, 10), [1056]), none, none, some (.invokevirtual 116, 3, (3, 72, 1), [4023, 4024, 4025, 1002])],
  [none, none, some (.istore_n 1, 1, (0, 99999, 0), []), some (.aload_n 0, 1, (0, 99999, 0), []), some (.iload_n 1, 1, (0, 99999, 0), []), some (.invokevirtual 119, 3, (3, 51, 1), [4028, 2135, 2136, 1002]), none, none, some (.ifCond .ne 4, 3, (0, 99999, 0), []), none, none, some (.return_, 1, (0, 99999, 0), []), some (.aload_n 0, 1, (0, 99999, 0), []), some (.getfield 24, 3, (1, 4, 4), [1041]), none, none],
  [some (.iload_n 1, 1, (0, 99999, 0), []), some (.aload_n 0, 1, (0, 99999, 0), []), some (.getfield 24, 3, (1, 4, 4), [1041]), none, none, some (.iload_n 1, 1, (0, 99999, 0), []), some (.iaload, 1, (0, 99999, 0), []), some (.aload_n 0, 1, (0, 99999, 0), []), some (.bipush 20, 2, (0, 99999, 0), []), none, some (.invokevirtual 116, 3, (3, 72, 1), [4023, 4024, 4025, 1002]), none, none, some (.iadd, 1, (0, 99999, 0), []), some (.bipush 99, 2, (0, 99999, 0), []), none],
  [some (.invokestatic 122, 3, (8, 99999, 0), [4029, 2172, 1010, 2173]), none, none, some (.iastore, 1, (0, 99999, 0), []), some (.aload_n 0, 1, (0, 99999, 0), []), some (.getfield 30, 3, (1, 4, 6), [1045]), none, none, some (.iload_n 1, 1, (0, 99999, 0), []), some (.aload_n 0, 1, (0, 99999, 0), []), some (.bipush 8, 2, (0, 99999, 0), []), none, some (.invokevirtual 116, 3, (3, 72, 1), [4023, 4024, 4025, 1002]), none, none, some (.iastore, 1, (0, 99999, 0), [])],
  [some (.aload_n 0, 1, (0, 99999, 0), []), some (.iload_n 1, 1, (0, 99999, 0), []), some (.invokevirtual 125, 3, (3, 68, 1), [4030, 3146, 3147, 1002]), none, none, some (.istore_n 2, 1, (0, 99999, 0), []), some (.iload_n 2, 1, (0, 99999, 0), []), some (.iconst (-1), 1, (0, 99999, 0), []), some (.if_icmp .eq 13, 3, (0, 99999, 0), []), none, none, some (.aload_n 0, 1, (0, 99999, 0), []), some (.iload_n 1, 1, (0, 99999, 0), []), some (.iload_n 2, 1, (0, 99999, 0), []), some (.iconst 0, 1, (0, 99999, 0), []), some (.invokevirtual 128, 3, (3, 71, 3), [4031, 3236, 3237, 1002])],
  [none, none, some (.goto 16, 3, (0, 99999, 0), []), none, none, some (.aload_n 0, 1, (0, 99999, 0), []), some (.iload_n 1, 1, (0, 99999, 0), []), some (.aload_n 0, 1, (0, 99999, 0), []), some (.aload_n 0, 1, (0, 99999, 0), []), some (.getfield 39, 3, (1, 4, 9), [1052]), none, none, some (.invokevirtual 116, 3, (3, 72, 1), [4023, 4024, 4025, 1002]), none, none, some (.invokevirtual 132, 3, (3, 74, 2), [4032, 4034, 26, 1002])],
  [none, none, some (.return_, 1, (0, 99999, 0), [])]])
def mX4_throwIn : ab_D := (yX4_throwIn, cX4_throwIn, 3, none, 4, 2, false, [
  [some (.aload_n 0, 1, (0, 99999, 0), []), some (.iload_n 2, 1, (0, 99999, 0), []), some (.invokevirtual 136, 3, (3, 50, 1), [4036, 2057, 2058, 1002]), none, none, some (.ifCond .eq 21, 3, (0, 99999, 0), []), none, none, some (.aload_n 0, 1, (0, 99999, 0), []), some (.getfield 21, 3, (1, 4, 3), [1038]), none, none, some (.iload_n 2, 1, (0, 99999, 0), []), some (.iaload, 1, (0, 99999, 0), []), some (.iload_n 1, 1, (0, 99999, 0), []), some (.if_icmp .ne 11, 3, (0, 99999, 0), [])],
  [none, none, some (.aload_n 0, 1, (0, 99999, 0), []), some (.getfield 21, 3, (1, 4, 3), [1038]), none, none, some (.iload_n 2, 1, (0, 99999, 0), []), some (.bipush 99, 2, (0, 99999, 0), []), none, some (.iastore, 1, (0, 99999, 0), []), some (.return_, 1, (0, 99999, 0), [])]])
def mX5_init : ab_D := (yX5_init, cX5_init, 2, none, 5, 0, true, [
  [some (.aload_n 0, 1, (0, 99999, 0), []), some (.invokespecial 1, 3, (6, 99999, 0), [1021, 1022, 1023]), none, none, some (.aload_n 0, 1, (0, 99999, 0), []), some (.new 7, 3, (2, 4, 0), [1024, 1025, 1002]), none, none, some (.dup, 1, (0, 99999, 0), []), some (.invokespecial 9, 3, (5, 45, 0), [1026, 1027, 1002]), none, none, some (.putfield 10, 3, (1, 5, 0), [1182]), none, none, some (.aload_n 0, 1, (0, 99999, 0), [])],
  [some (.new 7, 3, (2, 4, 0), [1024, 1025, 1002]), none, none, some (.dup, 1, (0, 99999, 0), []), some (.invokespecial 9, 3, (5, 45, 0), [1026, 1027, 1002]), none, none, some (.putfield 16, 3, (1, 5, 1), [1183]), none, none, some (.aload_n 0, 1, (0, 99999, 0), []), some (.new 7, 3, (2, 4, 0), [1024, 1025, 1002]), none, none, some (.dup, 1, (0, 99999, 0), []), some (.invokespecial 9, 3, (5, 45, 0), [1026, 1027, 1002])],
  [none, none, some (.putfield 19, 3, (1, 5, 2), [1184]), none, none, some (.aload_n 0, 1, (0, 99999, 0), []), some (.bipush 8, 2, (0, 99999, 0), []), none, some (.anewarray 22, 3, (12, 3, 0), [1100]), none, none, some (.putfield 24, 3, (1, 5, 3), [1185]), none, none, some (.aload_n 0, 1, (0, 99999, 0), []), some (.new 28, 3, (2, 0, 0), [1102, 1103, 1003])],
  [none, none, some (.dup, 1, (0, 99999, 0), []), some (.invokespecial 30, 3, (15, 0, 0), [1105, 1003]), none, none, some (.putfield 31, 3, (1, 5, 4), [1186]), none, none, some (.aload_n 0, 1, (0, 99999, 0), []), some (.new 35, 3, (2, 2, 0), [1112, 1113, 1004]), none, none, some (.dup, 1, (0, 99999, 0), []), some (.invokespecial 37, 3, (15, 13, 0), [1115, 1004]), none],
  [none, some (.putfield 38, 3, (1, 5, 5), [1187]), none, none, some (.aload_n 0, 1, (0, 99999, 0), []), some (.new 42, 3, (2, 1, 0), [1141, 1142, 1005]), none, none, some (.dup, 1, (0, 99999, 0), []), some (.invokespecial 44, 3, (15, 6, 0), [1144, 1005]), none, none, some (.putfield 45, 3, (1, 5, 6), [1188]), none, none, some (.aload_n 0, 1, (0, 99999, 0), [])],
  [some (.bipush 8, 2, (0, 99999, 0), []), none, some (.newarray .int, 2, (0, 99999, 0), [1099]), none, some (.putfield 49, 3, (1, 5, 7), [1189]), none, none, some (.aload_n 0, 1, (0, 99999, 0), []), some (.iconst 0, 1, (0, 99999, 0), []), some (.putfield 53, 3, (1, 5, 8), [1190]), none, none, some (.aload_n 0, 1, (0, 99999, 0), []), some (.iconst (-1), 1, (0, 99999, 0), []), some (.putfield 57, 3, (1, 5, 9), [1191]), none],
  [none, some (.iconst 0, 1, (0, 99999, 0), []), some (.istore_n 1, 1, (0, 99999, 0), []), some (.iload_n 1, 1, (0, 99999, 0), []), some (.bipush 8, 2, (0, 99999, 0), []), none, some (.if_icmp .ge 22, 3, (0, 99999, 0), []), none, none, some (.aload_n 0, 1, (0, 99999, 0), []), some (.getfield 24, 3, (1, 5, 3), [1185]), none, none, some (.iload_n 1, 1, (0, 99999, 0), []), some (.new 22, 3, (2, 3, 0), [1100, 1164, 1006]), none],
  [none, some (.dup, 1, (0, 99999, 0), []), some (.invokespecial 61, 3, (15, 29, 0), [1166, 1006]), none, none, some (.aastore, 1, (0, 99999, 0), []), some (.iinc 1 1, 3, (0, 99999, 0), []), none, none, some (.goto (-22), 3, (0, 99999, 0), []), none, none, some (.return_, 1, (0, 99999, 0), [])]])
def mX5_row : ab_D := (yX5_row, cX5_row, 4, some .int, 5, 3, false, [
  [some (.iload_n 1, 1, (0, 99999, 0), []), some (.invokestatic 62, 3, (4, 117, 1), [1217, 1218, 1001]), none, none, some (.ifCond .ne 9, 3, (0, 99999, 0), []), none, none, some (.aload_n 0, 1, (0, 99999, 0), []), some (.iconst 1, 1, (0, 99999, 0), []), some (.invokevirtual 66, 3, (3, 118, 1), [1220, 1222, 0, 1001]), none, none, some (.ireturn, 1, (0, 99999, 0), []), some (.iload_n 3, 1, (0, 99999, 0), []), some (.ifCond .ge 9, 3, (0, 99999, 0), []), none],
  [none, some (.aload_n 0, 1, (0, 99999, 0), []), some (.iconst 4, 1, (0, 99999, 0), []), some (.invokevirtual 66, 3, (3, 118, 1), [1220, 1222, 0, 1001]), none, none, some (.ireturn, 1, (0, 99999, 0), []), some (.iload_n 2, 1, (0, 99999, 0), []), some (.ifCond .lt 8, 3, (0, 99999, 0), []), none, none, some (.iload_n 2, 1, (0, 99999, 0), []), some (.iconst 3, 1, (0, 99999, 0), []), some (.if_icmp .le 10, 3, (0, 99999, 0), []), none, none],
  [some (.aload_n 0, 1, (0, 99999, 0), []), some (.bipush 6, 2, (0, 99999, 0), []), none, some (.invokevirtual 66, 3, (3, 118, 1), [1220, 1222, 0, 1001]), none, none, some (.ireturn, 1, (0, 99999, 0), []), some (.iload_n 3, 1, (0, 99999, 0), []), some (.sipush 160, 3, (0, 99999, 0), []), none, none, some (.if_icmp .le 10, 3, (0, 99999, 0), []), none, none, some (.aload_n 0, 1, (0, 99999, 0), []), some (.bipush 7, 2, (0, 99999, 0), [])],
  [none, some (.invokevirtual 66, 3, (3, 118, 1), [1220, 1222, 0, 1001]), none, none, some (.ireturn, 1, (0, 99999, 0), []), some (.aload_n 0, 1, (0, 99999, 0), []), some (.getfield 24, 3, (1, 5, 3), [1185]), none, none, some (.iload_n 1, 1, (0, 99999, 0), []), some (.aaload, 1, (0, 99999, 0), []), some (.iload_n 2, 1, (0, 99999, 0), []), some (.iload_n 3, 1, (0, 99999, 0), []), some (.invokevirtual 70, 3, (3, 30, 2), [1227, 1228, 1229, 1006]), none, none],
  [some (.iconst 1, 1, (0, 99999, 0), []), some (.ireturn, 1, (0, 99999, 0), [])]])
def mX5_set : ab_D := (yX5_set, cX5_set, 6, some .int, 5, 3, false, [
  [some (.aload_n 0, 1, (0, 99999, 0), []), some (.iload_n 1, 1, (0, 99999, 0), []), some (.invokevirtual 74, 3, (3, 119, 1), [1238, 2000, 1, 1001]), none, none, some (.istore 5, 2, (0, 99999, 0), []), none, some (.iload 5, 2, (0, 99999, 0), []), none, some (.ifCond .eq 10, 3, (0, 99999, 0), []), none, none, some (.aload_n 0, 1, (0, 99999, 0), []), some (.iload 5, 2, (0, 99999, 0), []), none, some (.invokevirtual 66, 3, (3, 118, 1), [1220, 1222, 0, 1001])],
  [none, none, some (.ireturn, 1, (0, 99999, 0), []), some (.aload_n 0, 1, (0, 99999, 0), []), some (.getfield 24, 3, (1, 5, 3), [1185]), none, none, some (.iload_n 1, 1, (0, 99999, 0), []), some (.aaload, 1, (0, 99999, 0), []), some (.iload_n 2, 1, (0, 99999, 0), []), some (.invokevirtual 77, 3, (3, 35, 1), [2010, 2011, 2012, 1006]), none, none, some (.ifCond .ne 9, 3, (0, 99999, 0), []), none, none],
  [some (.aload_n 0, 1, (0, 99999, 0), []), some (.iconst 5, 1, (0, 99999, 0), []), some (.invokevirtual 66, 3, (3, 118, 1), [1220, 1222, 0, 1001]), none, none, some (.ireturn, 1, (0, 99999, 0), []), some (.aload_n 0, 1, (0, 99999, 0), []), some (.getfield 24, 3, (1, 5, 3), [1185]), none, none, some (.iload_n 1, 1, (0, 99999, 0), []), some (.aaload, 1, (0, 99999, 0), []), some (.iload_n 2, 1, (0, 99999, 0), []), some (.lload_n 3, 1, (0, 99999, 0), []), some (.invokevirtual 80, 3, (3, 37, 2), [2014, 2015, 2016, 1006]), none],
  [none, some (.iconst 1, 1, (0, 99999, 0), []), some (.ireturn, 1, (0, 99999, 0), [])]])
def mX5_copy : ab_D := (yX5_copy, cX5_copy, 8, some .int, 5, 5, false, [
  [some (.iload_n 1, 1, (0, 99999, 0), []), some (.invokestatic 62, 3, (4, 117, 1), [1217, 1218, 1001]), none, none, some (.ifCond .eq 10, 3, (0, 99999, 0), []), none, none, some (.iload_n 2, 1, (0, 99999, 0), []), some (.invokestatic 62, 3, (4, 117, 1), [1217, 1218, 1001]), none, none, some (.ifCond .ne 9, 3, (0, 99999, 0), []), none, none, some (.aload_n 0, 1, (0, 99999, 0), []), some (.iconst 1, 1, (0, 99999, 0), [])],
  [some (.invokevirtual 66, 3, (3, 118, 1), [1220, 1222, 0, 1001]), none, none, some (.ireturn, 1, (0, 99999, 0), []), some (.aload_n 0, 1, (0, 99999, 0), []), some (.getfield 24, 3, (1, 5, 3), [1185]), none, none, some (.iload_n 1, 1, (0, 99999, 0), []), some (.aaload, 1, (0, 99999, 0), []), some (.astore 6, 2, (0, 99999, 0), []), none, some (.aload_n 0, 1, (0, 99999, 0), []), some (.getfield 24, 3, (1, 5, 3), [1185]), none, none],
  [some (.iload_n 2, 1, (0, 99999, 0), []), some (.aaload, 1, (0, 99999, 0), []), some (.astore 7, 2, (0, 99999, 0), []), none, some (.aload 6, 2, (0, 99999, 0), []), none, some (.invokevirtual 84, 3, (3, 33, 0), [2002, 2003, 2004, 1006]), none, none, some (.ifCond .ne 21, 3, (0, 99999, 0), []), none, none, some (.aload 7, 2, (0, 99999, 0), []), none, some (.invokevirtual 84, 3, (3, 33, 0), [2002, 2003, 2004, 1006]), none],
  [none, some (.ifCond .ne 13, 3, (0, 99999, 0), []), none, none, some (.aload 6, 2, (0, 99999, 0), []), none, some (.aload 7, 2, (0, 99999, 0), []), none, some (.invokevirtual 88, 3, (3, 34, 1), [2027, 2028, 2029, 1006]), none, none, some (.ifCond .eq 9, 3, (0, 99999, 0), []), none, none, some (.aload_n 0, 1, (0, 99999, 0), []), some (.iconst 2, 1, (0, 99999, 0), [])],
  [some (.invokevirtual 66, 3, (3, 118, 1), [1220, 1222, 0, 1001]), none, none, some (.ireturn, 1, (0, 99999, 0), []), some (.aload 6, 2, (0, 99999, 0), []), none, some (.invokevirtual 92, 3, (3, 32, 0), [2006, 2007, 2008, 1006]), none, none, some (.ifCond .ne 11, 3, (0, 99999, 0), []), none, none, some (.aload 7, 2, (0, 99999, 0), []), none, some (.invokevirtual 92, 3, (3, 32, 0), [2006, 2007, 2008, 1006]), none],
  [none, some (.ifCond .eq 9, 3, (0, 99999, 0), []), none, none, some (.aload_n 0, 1, (0, 99999, 0), []), some (.iconst 3, 1, (0, 99999, 0), []), some (.invokevirtual 66, 3, (3, 118, 1), [1220, 1222, 0, 1001]), none, none, some (.ireturn, 1, (0, 99999, 0), []), some (.iload 5, 2, (0, 99999, 0), []), none, some (.ifCond .ge 9, 3, (0, 99999, 0), []), none, none, some (.aload_n 0, 1, (0, 99999, 0), [])],
  [some (.iconst 4, 1, (0, 99999, 0), []), some (.invokevirtual 66, 3, (3, 118, 1), [1220, 1222, 0, 1001]), none, none, some (.ireturn, 1, (0, 99999, 0), []), some (.aload 6, 2, (0, 99999, 0), []), none, some (.iload_n 3, 1, (0, 99999, 0), []), some (.iload 5, 2, (0, 99999, 0), []), none, some (.invokevirtual 95, 3, (3, 36, 2), [2032, 2033, 2034, 1006]), none, none, some (.ifCond .eq 15, 3, (0, 99999, 0), []), none, none],
  [some (.aload 7, 2, (0, 99999, 0), []), none, some (.iload 4, 2, (0, 99999, 0), []), none, some (.iload 5, 2, (0, 99999, 0), []), none, some (.invokevirtual 95, 3, (3, 36, 2), [2032, 2033, 2034, 1006]), none, none, some (.ifCond .ne 9, 3, (0, 99999, 0), []), none, none, some (.aload_n 0, 1, (0, 99999, 0), []), some (.iconst 5, 1, (0, 99999, 0), []), some (.invokevirtual 66, 3, (3, 118, 1), [1220, 1222, 0, 1001]), none],
  [none, some (.ireturn, 1, (0, 99999, 0), []), some (.aload 6, 2, (0, 99999, 0), []), none, some (.aload 7, 2, (0, 99999, 0), []), none, some (.iload_n 3, 1, (0, 99999, 0), []), some (.iload 4, 2, (0, 99999, 0), []), none, some (.iload 5, 2, (0, 99999, 0), []), none, some (.invokevirtual 99, 3, (3, 39, 4), [2036, 2037, 2038, 1006]), none, none, some (.iconst 1, 1, (0, 99999, 0), []), some (.ireturn, 1, (0, 99999, 0), [])]])
def mX5_element : ab_D := (yX5_element, cX5_element, 3, some .long, 5, 2, false, [
  [some (.iload_n 1, 1, (0, 99999, 0), []), some (.invokestatic 62, 3, (4, 117, 1), [1217, 1218, 1001]), none, none, some (.ifCond .eq 16, 3, (0, 99999, 0), []), none, none, some (.aload_n 0, 1, (0, 99999, 0), []), some (.getfield 24, 3, (1, 5, 3), [1185]), none, none, some (.iload_n 1, 1, (0, 99999, 0), []), some (.aaload, 1, (0, 99999, 0), []), some (.iload_n 2, 1, (0, 99999, 0), []), some (.invokevirtual 103, 3, (3, 40, 1), [2048, 2049, 2050, 1006]), none],
  [none, some (.goto 4, 3, (0, 99999, 0), []), none, none, some (.lconst 0, 1, (0, 99999, 0), []), some (.lreturn, 1, (0, 99999, 0), [])]])
def mX5_show : ab_D := (yX5_show, cX5_show, 3, some .int, 5, 2, false, [
  [some (.iload_n 1, 1, (0, 99999, 0), []), some (.invokestatic 62, 3, (4, 117, 1), [1217, 1218, 1001]), none, none, some (.ifCond .eq 19, 3, (0, 99999, 0), []), none, none, some (.iload_n 2, 1, (0, 99999, 0), []), some (.iconst (-1), 1, (0, 99999, 0), []), some (.if_icmp .eq 20, 3, (0, 99999, 0), []), none, none, some (.aload_n 0, 1, (0, 99999, 0), []), some (.getfield 10, 3, (1, 5, 0), [1182]), none, none],
  [some (.iload_n 2, 1, (0, 99999, 0), []), some (.invokevirtual 107, 3, (3, 50, 1), [2056, 2057, 2058, 1002]), none, none, some (.ifCond .ne 9, 3, (0, 99999, 0), []), none, none, some (.aload_n 0, 1, (0, 99999, 0), []), some (.iconst 1, 1, (0, 99999, 0), []), some (.invokevirtual 66, 3, (3, 118, 1), [1220, 1222, 0, 1001]), none, none, some (.ireturn, 1, (0, 99999, 0), []), some (.aload_n 0, 1, (0, 99999, 0), []), some (.getfield 24, 3, (1, 5, 3), [1185]), none],
  [none, some (.iload_n 1, 1, (0, 99999, 0), []), some (.aaload, 1, (0, 99999, 0), []), some (.iload_n 2, 1, (0, 99999, 0), []), some (.invokevirtual 110, 3, (3, 31, 1), [2060, 2061, 2062, 1006]), none, none, some (.iload_n 2, 1, (0, 99999, 0), []), some (.iconst (-1), 1, (0, 99999, 0), []), some (.if_icmp .ne 7, 3, (0, 99999, 0), []), none, none, some (.iconst 0, 1, (0, 99999, 0), []), some (.goto 4, 3, (0, 99999, 0), []), none, none],
  [some (.iconst 1, 1, (0, 99999, 0), []), some (.ireturn, 1, (0, 99999, 0), [])]])
def mX5_holds : ab_D := (yX5_holds, cX5_holds, 2, some .int, 5, 1, false, [
  [some (.iload_n 1, 1, (0, 99999, 0), []), some (.invokestatic 62, 3, (4, 117, 1), [1217, 1218, 1001]), none, none, some (.ifCond .eq 15, 3, (0, 99999, 0), []), none, none, some (.aload_n 0, 1, (0, 99999, 0), []), some (.getfield 24, 3, (1, 5, 3), [1185]), none, none, some (.iload_n 1, 1, (0, 99999, 0), []), some (.aaload, 1, (0, 99999, 0), []), some (.getfield 114, 3, (1, 3, 1), [1171]), none, none],
  [some (.goto 4, 3, (0, 99999, 0), []), none, none, some (.iconst (-1), 1, (0, 99999, 0), []), some (.ireturn, 1, (0, 99999, 0), [])]])
def mX5_says : ab_D := (yX5_says, cX5_says, 5, some .int, 5, 2, false, [
  [some (.iload_n 1, 1, (0, 99999, 0), []), some (.invokestatic 62, 3, (4, 117, 1), [1217, 1218, 1001]), none, none, some (.ifCond .eq 10, 3, (0, 99999, 0), []), none, none, some (.iload_n 2, 1, (0, 99999, 0), []), some (.invokestatic 117, 3, (4, 46, 1), [2072, 2073, 1002]), none, none, some (.ifCond .ne 9, 3, (0, 99999, 0), []), none, none, some (.aload_n 0, 1, (0, 99999, 0), []), some (.iconst 1, 1, (0, 99999, 0), [])],
  [some (.invokevirtual 66, 3, (3, 118, 1), [1220, 1222, 0, 1001]), none, none, some (.ireturn, 1, (0, 99999, 0), []), some (.aload_n 0, 1, (0, 99999, 0), []), some (.getfield 24, 3, (1, 5, 3), [1185]), none, none, some (.iload_n 1, 1, (0, 99999, 0), []), some (.aaload, 1, (0, 99999, 0), []), some (.astore_n 3, 1, (0, 99999, 0), []), some (.aload_n 3, 1, (0, 99999, 0), []), some (.invokevirtual 92, 3, (3, 32, 0), [2006, 2007, 2008, 1006]), none, none, some (.ifCond .eq 9, 3, (0, 99999, 0), [])],
  [none, none, some (.aload_n 0, 1, (0, 99999, 0), []), some (.iconst 3, 1, (0, 99999, 0), []), some (.invokevirtual 66, 3, (3, 118, 1), [1220, 1222, 0, 1001]), none, none, some (.ireturn, 1, (0, 99999, 0), []), some (.aload_n 3, 1, (0, 99999, 0), []), some (.getfield 114, 3, (1, 3, 1), [1171]), none, none, some (.istore 4, 2, (0, 99999, 0), []), none, some (.aload_n 0, 1, (0, 99999, 0), []), some (.getfield 10, 3, (1, 5, 0), [1182])],
  [none, none, some (.iload 4, 2, (0, 99999, 0), []), none, some (.invokevirtual 107, 3, (3, 50, 1), [2056, 2057, 2058, 1002]), none, none, some (.ifCond .eq 16, 3, (0, 99999, 0), []), none, none, some (.aload_n 0, 1, (0, 99999, 0), []), some (.getfield 10, 3, (1, 5, 0), [1182]), none, none, some (.iload 4, 2, (0, 99999, 0), []), none],
  [some (.iload_n 2, 1, (0, 99999, 0), []), some (.invokevirtual 120, 3, (3, 54, 2), [2075, 2076, 2077, 1002]), none, none, some (.ifCond .ne 9, 3, (0, 99999, 0), []), none, none, some (.aload_n 0, 1, (0, 99999, 0), []), some (.iconst 2, 1, (0, 99999, 0), []), some (.invokevirtual 66, 3, (3, 118, 1), [1220, 1222, 0, 1001]), none, none, some (.ireturn, 1, (0, 99999, 0), []), some (.iload_n 2, 1, (0, 99999, 0), []), some (.tableswitch 69 0 5 #[38, 49, 59, 49, 69, 59], 38, (0, 99999, 0), []), none],
  [none, none, none, none, none, none, none, none, none, none, none, none, none, none, none, none],
  [none, none, none, none, none, none, none, none, none, none, none, none, none, none, none, none],
  [none, none, none, none, some (.aload_n 0, 1, (0, 99999, 0), []), some (.getfield 10, 3, (1, 5, 0), [1182]), none, none, some (.getfield 123, 3, (1, 4, 2), [1037]), none, none, some (.iload 4, 2, (0, 99999, 0), []), none, some (.iaload, 1, (0, 99999, 0), []), some (.ireturn, 1, (0, 99999, 0), []), some (.aload_n 0, 1, (0, 99999, 0), [])],
  [some (.getfield 10, 3, (1, 5, 0), [1182]), none, none, some (.iload 4, 2, (0, 99999, 0), []), none, some (.invokevirtual 126, 3, (3, 59, 1), [2082, 2083, 2084, 1002]), none, none, some (.ireturn, 1, (0, 99999, 0), []), some (.aload_n 0, 1, (0, 99999, 0), []), some (.getfield 10, 3, (1, 5, 0), [1182]), none, none, some (.iload 4, 2, (0, 99999, 0), []), none, some (.invokevirtual 129, 3, (3, 58, 1), [2086, 2087, 2088, 1002])],
  [none, none, some (.ireturn, 1, (0, 99999, 0), []), some (.aload_n 0, 1, (0, 99999, 0), []), some (.getfield 10, 3, (1, 5, 0), [1182]), none, none, some (.getfield 132, 3, (1, 4, 1), [1035]), none, none, some (.iload 4, 2, (0, 99999, 0), []), none, some (.iaload, 1, (0, 99999, 0), []), some (.ireturn, 1, (0, 99999, 0), [])]])
def mX5_piece : ab_D := (yX5_piece, cX5_piece, 4, some .int, 5, 3, false, [
  [some (.iload_n 1, 1, (0, 99999, 0), []), some (.invokestatic 117, 3, (4, 46, 1), [2072, 2073, 1002]), none, none, some (.ifCond .ne 9, 3, (0, 99999, 0), []), none, none, some (.aload_n 0, 1, (0, 99999, 0), []), some (.iconst 1, 1, (0, 99999, 0), []), some (.invokevirtual 66, 3, (3, 118, 1), [1220, 1222, 0, 1001]), none, none, some (.ireturn, 1, (0, 99999, 0), []), some (.iload_n 2, 1, (0, 99999, 0), []), some (.iconst 0, 1, (0, 99999, 0), []), some (.bipush 9, 2, (0, 99999, 0), [])],
  [none, some (.invokestatic 135, 3, (4, 115, 3), [1224, 1225, 1001]), none, none, some (.ifCond .eq 13, 3, (0, 99999, 0), []), none, none, some (.iload_n 3, 1, (0, 99999, 0), []), some (.iconst 1, 1, (0, 99999, 0), []), some (.bipush 50, 2, (0, 99999, 0), []), none, some (.invokestatic 135, 3, (4, 115, 3), [1224, 1225, 1001]), none, none, some (.ifCond .ne 10, 3, (0, 99999, 0), []), none],
  [none, some (.aload_n 0, 1, (0, 99999, 0), []), some (.bipush 6, 2, (0, 99999, 0), []), none, some (.invokevirtual 66, 3, (3, 118, 1), [1220, 1222, 0, 1001]), none, none, some (.ireturn, 1, (0, 99999, 0), []), some (.aload_n 0, 1, (0, 99999, 0), []), some (.getfield 10, 3, (1, 5, 0), [1182]), none, none, some (.invokevirtual 139, 3, (3, 52, 0), [2097, 2098, 2099, 1002]), none, none, some (.ifCond .ne 10, 3, (0, 99999, 0), [])],
  [none, none, some (.aload_n 0, 1, (0, 99999, 0), []), some (.bipush 7, 2, (0, 99999, 0), []), none, some (.invokevirtual 66, 3, (3, 118, 1), [1220, 1222, 0, 1001]), none, none, some (.ireturn, 1, (0, 99999, 0), []), some (.aload_n 0, 1, (0, 99999, 0), []), some (.getfield 10, 3, (1, 5, 0), [1182]), none, none, some (.iload_n 1, 1, (0, 99999, 0), []), some (.iload_n 2, 1, (0, 99999, 0), []), some (.iload_n 3, 1, (0, 99999, 0), [])],
  [some (.invokevirtual 142, 3, (3, 56, 3), [2101, 2102, 2103, 1002]), none, none, some (.ireturn, 1, (0, 99999, 0), [])]])
def mX5_person : ab_D := (yX5_person, cX5_person, 4, some .int, 5, 3, false, [
  [some (.iload_n 3, 1, (0, 99999, 0), []), some (.invokestatic 146, 3, (4, 47, 1), [2110, 2111, 1002]), none, none, some (.ifCond .ne 9, 3, (0, 99999, 0), []), none, none, some (.aload_n 0, 1, (0, 99999, 0), []), some (.iconst 1, 1, (0, 99999, 0), []), some (.invokevirtual 66, 3, (3, 118, 1), [1220, 1222, 0, 1001]), none, none, some (.ireturn, 1, (0, 99999, 0), []), some (.iload_n 1, 1, (0, 99999, 0), []), some (.iconst 0, 1, (0, 99999, 0), []), some (.bipush 99, 2, (0, 99999, 0), [])],
  [none, some (.invokestatic 135, 3, (4, 115, 3), [1224, 1225, 1001]), none, none, some (.ifCond .eq 13, 3, (0, 99999, 0), []), none, none, some (.iload_n 2, 1, (0, 99999, 0), []), some (.iconst 0, 1, (0, 99999, 0), []), some (.bipush 9, 2, (0, 99999, 0), []), none, some (.invokestatic 135, 3, (4, 115, 3), [1224, 1225, 1001]), none, none, some (.ifCond .ne 10, 3, (0, 99999, 0), []), none],
  [none, some (.aload_n 0, 1, (0, 99999, 0), []), some (.bipush 6, 2, (0, 99999, 0), []), none, some (.invokevirtual 66, 3, (3, 118, 1), [1220, 1222, 0, 1001]), none, none, some (.ireturn, 1, (0, 99999, 0), []), some (.aload_n 0, 1, (0, 99999, 0), []), some (.getfield 10, 3, (1, 5, 0), [1182]), none, none, some (.invokevirtual 149, 3, (3, 53, 0), [2113, 2114, 2115, 1002]), none, none, some (.ifCond .ne 10, 3, (0, 99999, 0), [])],
  [none, none, some (.aload_n 0, 1, (0, 99999, 0), []), some (.bipush 7, 2, (0, 99999, 0), []), none, some (.invokevirtual 66, 3, (3, 118, 1), [1220, 1222, 0, 1001]), none, none, some (.ireturn, 1, (0, 99999, 0), []), some (.aload_n 0, 1, (0, 99999, 0), []), some (.getfield 10, 3, (1, 5, 0), [1182]), none, none, some (.iload_n 1, 1, (0, 99999, 0), []), some (.iload_n 2, 1, (0, 99999, 0), []), some (.iload_n 3, 1, (0, 99999, 0), [])],
  [some (.invokevirtual 152, 3, (3, 57, 3), [2117, 2118, 2119, 1002]), none, none, some (.ireturn, 1, (0, 99999, 0), [])]])
def mX5_cost : ab_D := (yX5_cost, cX5_cost, 4, some .int, 5, 2, false, [
  [some (.iload_n 1, 1, (0, 99999, 0), []), some (.invokestatic 146, 3, (4, 47, 1), [2110, 2111, 1002]), none, none, some (.ifCond .ne 9, 3, (0, 99999, 0), []), none, none, some (.aload_n 0, 1, (0, 99999, 0), []), some (.iconst 1, 1, (0, 99999, 0), []), some (.invokevirtual 66, 3, (3, 118, 1), [1220, 1222, 0, 1001]), none, none, some (.ireturn, 1, (0, 99999, 0), []), some (.iload_n 2, 1, (0, 99999, 0), []), some (.iconst 1, 1, (0, 99999, 0), []), some (.bipush 60, 2, (0, 99999, 0), [])],
  [none, some (.invokestatic 135, 3, (4, 115, 3), [1224, 1225, 1001]), none, none, some (.ifCond .ne 10, 3, (0, 99999, 0), []), none, none, some (.aload_n 0, 1, (0, 99999, 0), []), some (.bipush 6, 2, (0, 99999, 0), []), none, some (.invokevirtual 66, 3, (3, 118, 1), [1220, 1222, 0, 1001]), none, none, some (.ireturn, 1, (0, 99999, 0), []), some (.aload_n 0, 1, (0, 99999, 0), []), some (.getfield 10, 3, (1, 5, 0), [1182])],
  [none, none, some (.getfield 155, 3, (1, 4, 8), [1051]), none, none, some (.iload_n 1, 1, (0, 99999, 0), []), some (.iaload, 1, (0, 99999, 0), []), some (.istore_n 3, 1, (0, 99999, 0), []), some (.aload_n 0, 1, (0, 99999, 0), []), some (.getfield 10, 3, (1, 5, 0), [1182]), none, none, some (.getfield 155, 3, (1, 4, 8), [1051]), none, none, some (.iload_n 1, 1, (0, 99999, 0), [])],
  [some (.iload_n 2, 1, (0, 99999, 0), []), some (.iastore, 1, (0, 99999, 0), []), some (.iload_n 3, 1, (0, 99999, 0), []), some (.ireturn, 1, (0, 99999, 0), [])]])
def mX5_rule : ab_D := (yX5_rule, cX5_rule, 3, some .int, 5, 1, false, [
  [some (.iload_n 1, 1, (0, 99999, 0), []), some (.ifCond .eq 15, 3, (0, 99999, 0), []), none, none, some (.iload_n 1, 1, (0, 99999, 0), []), some (.iconst 1, 1, (0, 99999, 0), []), some (.if_icmp .eq 10, 3, (0, 99999, 0), []), none, none, some (.aload_n 0, 1, (0, 99999, 0), []), some (.bipush 6, 2, (0, 99999, 0), []), none, some (.invokevirtual 66, 3, (3, 118, 1), [1220, 1222, 0, 1001]), none, none, some (.ireturn, 1, (0, 99999, 0), [])],
  [some (.aload_n 0, 1, (0, 99999, 0), []), some (.getfield 10, 3, (1, 5, 0), [1182]), none, none, some (.getfield 158, 3, (1, 4, 11), [1061]), none, none, some (.istore_n 2, 1, (0, 99999, 0), []), some (.aload_n 0, 1, (0, 99999, 0), []), some (.getfield 10, 3, (1, 5, 0), [1182]), none, none, some (.iload_n 1, 1, (0, 99999, 0), []), some (.putfield 158, 3, (1, 4, 11), [1061]), none, none],
  [some (.iload_n 2, 1, (0, 99999, 0), []), some (.ireturn, 1, (0, 99999, 0), [])]])
def mX5_tell : ab_D := (yX5_tell, cX5_tell, 4, some .int, 5, 3, false, [
  [some (.aload_n 0, 1, (0, 99999, 0), []), some (.getfield 10, 3, (1, 5, 0), [1182]), none, none, some (.iload_n 1, 1, (0, 99999, 0), []), some (.invokevirtual 161, 3, (3, 51, 1), [2134, 2135, 2136, 1002]), none, none, some (.ifCond .eq 15, 3, (0, 99999, 0), []), none, none, some (.iload_n 2, 1, (0, 99999, 0), []), some (.iconst 2, 1, (0, 99999, 0), []), some (.if_icmp .ne 16, 3, (0, 99999, 0), []), none, none],
  [some (.iload_n 3, 1, (0, 99999, 0), []), some (.invokestatic 146, 3, (4, 47, 1), [2110, 2111, 1002]), none, none, some (.ifCond .ne 9, 3, (0, 99999, 0), []), none, none, some (.aload_n 0, 1, (0, 99999, 0), []), some (.iconst 1, 1, (0, 99999, 0), []), some (.invokevirtual 66, 3, (3, 118, 1), [1220, 1222, 0, 1001]), none, none, some (.ireturn, 1, (0, 99999, 0), []), some (.iload_n 2, 1, (0, 99999, 0), []), some (.tableswitch 74 0 2 #[26, 42, 58], 26, (0, 99999, 0), []), none],
  [none, none, none, none, none, none, none, none, none, none, none, none, none, none, none, none],
  [none, none, none, none, none, none, none, none, some (.aload_n 0, 1, (0, 99999, 0), []), some (.aload_n 0, 1, (0, 99999, 0), []), some (.getfield 10, 3, (1, 5, 0), [1182]), none, none, some (.getfield 164, 3, (1, 4, 4), [1042]), none, none],
  [some (.iload_n 1, 1, (0, 99999, 0), []), some (.iload_n 3, 1, (0, 99999, 0), []), some (.bipush 99, 2, (0, 99999, 0), []), none, some (.invokevirtual 167, 3, (3, 121, 4), [2138, 2140, 3, 1001]), none, none, some (.ireturn, 1, (0, 99999, 0), []), some (.aload_n 0, 1, (0, 99999, 0), []), some (.aload_n 0, 1, (0, 99999, 0), []), some (.getfield 10, 3, (1, 5, 0), [1182]), none, none, some (.getfield 171, 3, (1, 4, 5), [1044]), none, none],
  [some (.iload_n 1, 1, (0, 99999, 0), []), some (.iload_n 3, 1, (0, 99999, 0), []), some (.bipush 9, 2, (0, 99999, 0), []), none, some (.invokevirtual 167, 3, (3, 121, 4), [2138, 2140, 3, 1001]), none, none, some (.ireturn, 1, (0, 99999, 0), []), some (.aload_n 0, 1, (0, 99999, 0), []), some (.aload_n 0, 1, (0, 99999, 0), []), some (.getfield 10, 3, (1, 5, 0), [1182]), none, none, some (.getfield 174, 3, (1, 4, 6), [1046]), none, none],
  [some (.iload_n 1, 1, (0, 99999, 0), []), some (.iload_n 3, 1, (0, 99999, 0), []), some (.bipush 7, 2, (0, 99999, 0), []), none, some (.invokevirtual 167, 3, (3, 121, 4), [2138, 2140, 3, 1001]), none, none, some (.ireturn, 1, (0, 99999, 0), []), some (.aload_n 0, 1, (0, 99999, 0), []), some (.bipush 6, 2, (0, 99999, 0), []), none, some (.invokevirtual 66, 3, (3, 118, 1), [1220, 1222, 0, 1001]), none, none, some (.ireturn, 1, (0, 99999, 0), [])]])
def mX5_pieceOf : ab_D := (yX5_pieceOf, cX5_pieceOf, 3, some .int, 5, 2, false, [
  [some (.aload_n 0, 1, (0, 99999, 0), []), some (.getfield 10, 3, (1, 5, 0), [1182]), none, none, some (.iload_n 1, 1, (0, 99999, 0), []), some (.invokevirtual 107, 3, (3, 50, 1), [2056, 2057, 2058, 1002]), none, none, some (.ifCond .ne 9, 3, (0, 99999, 0), []), none, none, some (.aload_n 0, 1, (0, 99999, 0), []), some (.iconst 5, 1, (0, 99999, 0), []), some (.invokevirtual 66, 3, (3, 118, 1), [1220, 1222, 0, 1001]), none, none],
  [some (.ireturn, 1, (0, 99999, 0), []), some (.iload_n 2, 1, (0, 99999, 0), []), some (.tableswitch 96 0 5 #[38, 48, 58, 68, 77, 86], 38, (0, 99999, 0), []), none, none, none, none, none, none, none, none, none, none, none, none, none],
  [none, none, none, none, none, none, none, none, none, none, none, none, none, none, none, none],
  [none, none, none, none, none, none, none, none, some (.aload_n 0, 1, (0, 99999, 0), []), some (.getfield 10, 3, (1, 5, 0), [1182]), none, none, some (.getfield 177, 3, (1, 4, 0), [1032]), none, none, some (.iload_n 1, 1, (0, 99999, 0), [])],
  [some (.iaload, 1, (0, 99999, 0), []), some (.ireturn, 1, (0, 99999, 0), []), some (.aload_n 0, 1, (0, 99999, 0), []), some (.getfield 10, 3, (1, 5, 0), [1182]), none, none, some (.getfield 132, 3, (1, 4, 1), [1035]), none, none, some (.iload_n 1, 1, (0, 99999, 0), []), some (.iaload, 1, (0, 99999, 0), []), some (.ireturn, 1, (0, 99999, 0), []), some (.aload_n 0, 1, (0, 99999, 0), []), some (.getfield 10, 3, (1, 5, 0), [1182]), none, none],
  [some (.getfield 123, 3, (1, 4, 2), [1037]), none, none, some (.iload_n 1, 1, (0, 99999, 0), []), some (.iaload, 1, (0, 99999, 0), []), some (.ireturn, 1, (0, 99999, 0), []), some (.aload_n 0, 1, (0, 99999, 0), []), some (.getfield 10, 3, (1, 5, 0), [1182]), none, none, some (.iload_n 1, 1, (0, 99999, 0), []), some (.invokevirtual 129, 3, (3, 58, 1), [2086, 2087, 2088, 1002]), none, none, some (.ireturn, 1, (0, 99999, 0), []), some (.aload_n 0, 1, (0, 99999, 0), [])],
  [some (.getfield 10, 3, (1, 5, 0), [1182]), none, none, some (.iload_n 1, 1, (0, 99999, 0), []), some (.invokevirtual 126, 3, (3, 59, 1), [2082, 2083, 2084, 1002]), none, none, some (.ireturn, 1, (0, 99999, 0), []), some (.aload_n 0, 1, (0, 99999, 0), []), some (.getfield 10, 3, (1, 5, 0), [1182]), none, none, some (.getfield 180, 3, (1, 4, 3), [1040]), none, none, some (.iload_n 1, 1, (0, 99999, 0), [])],
  [some (.iaload, 1, (0, 99999, 0), []), some (.ireturn, 1, (0, 99999, 0), []), some (.aload_n 0, 1, (0, 99999, 0), []), some (.iconst 5, 1, (0, 99999, 0), []), some (.invokevirtual 66, 3, (3, 118, 1), [1220, 1222, 0, 1001]), none, none, some (.ireturn, 1, (0, 99999, 0), [])]])
def mX5_personOf : ab_D := (yX5_personOf, cX5_personOf, 3, some .int, 5, 2, false, [
  [some (.aload_n 0, 1, (0, 99999, 0), []), some (.getfield 10, 3, (1, 5, 0), [1182]), none, none, some (.iload_n 1, 1, (0, 99999, 0), []), some (.invokevirtual 161, 3, (3, 51, 1), [2134, 2135, 2136, 1002]), none, none, some (.ifCond .ne 9, 3, (0, 99999, 0), []), none, none, some (.aload_n 0, 1, (0, 99999, 0), []), some (.iconst 5, 1, (0, 99999, 0), []), some (.invokevirtual 66, 3, (3, 118, 1), [1220, 1222, 0, 1001]), none, none],
  [some (.ireturn, 1, (0, 99999, 0), []), some (.iload_n 2, 1, (0, 99999, 0), []), some (.tableswitch 83 0 4 #[34, 44, 54, 64, 74], 34, (0, 99999, 0), []), none, none, none, none, none, none, none, none, none, none, none, none, none],
  [none, none, none, none, none, none, none, none, none, none, none, none, none, none, none, none],
  [none, none, none, none, some (.aload_n 0, 1, (0, 99999, 0), []), some (.getfield 10, 3, (1, 5, 0), [1182]), none, none, some (.getfield 164, 3, (1, 4, 4), [1042]), none, none, some (.iload_n 1, 1, (0, 99999, 0), []), some (.iaload, 1, (0, 99999, 0), []), some (.ireturn, 1, (0, 99999, 0), []), some (.aload_n 0, 1, (0, 99999, 0), []), some (.getfield 10, 3, (1, 5, 0), [1182])],
  [none, none, some (.getfield 171, 3, (1, 4, 5), [1044]), none, none, some (.iload_n 1, 1, (0, 99999, 0), []), some (.iaload, 1, (0, 99999, 0), []), some (.ireturn, 1, (0, 99999, 0), []), some (.aload_n 0, 1, (0, 99999, 0), []), some (.getfield 10, 3, (1, 5, 0), [1182]), none, none, some (.getfield 174, 3, (1, 4, 6), [1046]), none, none, some (.iload_n 1, 1, (0, 99999, 0), [])],
  [some (.iaload, 1, (0, 99999, 0), []), some (.ireturn, 1, (0, 99999, 0), []), some (.aload_n 0, 1, (0, 99999, 0), []), some (.getfield 10, 3, (1, 5, 0), [1182]), none, none, some (.getfield 183, 3, (1, 4, 7), [1048]), none, none, some (.iload_n 1, 1, (0, 99999, 0), []), some (.iaload, 1, (0, 99999, 0), []), some (.ireturn, 1, (0, 99999, 0), []), some (.aload_n 0, 1, (0, 99999, 0), []), some (.getfield 10, 3, (1, 5, 0), [1182]), none, none],
  [some (.iload_n 1, 1, (0, 99999, 0), []), some (.invokevirtual 186, 3, (3, 62, 1), [2150, 2151, 2152, 1002]), none, none, some (.ireturn, 1, (0, 99999, 0), []), some (.aload_n 0, 1, (0, 99999, 0), []), some (.iconst 5, 1, (0, 99999, 0), []), some (.invokevirtual 66, 3, (3, 118, 1), [1220, 1222, 0, 1001]), none, none, some (.ireturn, 1, (0, 99999, 0), [])]])
def mX5_square : ab_D := (yX5_square, cX5_square, 4, some .int, 5, 1, false, [
  [some (.aload_n 0, 1, (0, 99999, 0), []), some (.iload_n 1, 1, (0, 99999, 0), []), some (.invokevirtual 74, 3, (3, 119, 1), [1238, 2000, 1, 1001]), none, none, some (.istore_n 2, 1, (0, 99999, 0), []), some (.iload_n 2, 1, (0, 99999, 0), []), some (.ifCond .eq 9, 3, (0, 99999, 0), []), none, none, some (.aload_n 0, 1, (0, 99999, 0), []), some (.iload_n 2, 1, (0, 99999, 0), []), some (.invokevirtual 66, 3, (3, 118, 1), [1220, 1222, 0, 1001]), none, none, some (.ireturn, 1, (0, 99999, 0), [])],
  [some (.aload_n 0, 1, (0, 99999, 0), []), some (.getfield 38, 3, (1, 5, 5), [1187]), none, none, some (.aload_n 0, 1, (0, 99999, 0), []), some (.getfield 24, 3, (1, 5, 3), [1185]), none, none, some (.iload_n 1, 1, (0, 99999, 0), []), some (.aaload, 1, (0, 99999, 0), []), some (.aload_n 0, 1, (0, 99999, 0), []), some (.getfield 10, 3, (1, 5, 0), [1182]), none, none, some (.invokevirtual 189, 3, (3, 14, 2), [2158, 2159, 2160, 1004]), none],
  [none, some (.istore_n 3, 1, (0, 99999, 0), []), some (.aload_n 0, 1, (0, 99999, 0), []), some (.aload_n 0, 1, (0, 99999, 0), []), some (.getfield 38, 3, (1, 5, 5), [1187]), none, none, some (.getfield 193, 3, (1, 2, 1), [1123]), none, none, some (.putfield 57, 3, (1, 5, 9), [1191]), none, none, some (.iload_n 3, 1, (0, 99999, 0), []), some (.iconst (-1), 1, (0, 99999, 0), []), some (.if_icmp .ne 10, 3, (0, 99999, 0), [])],
  [none, none, some (.aload_n 0, 1, (0, 99999, 0), []), some (.bipush 6, 2, (0, 99999, 0), []), none, some (.invokevirtual 66, 3, (3, 118, 1), [1220, 1222, 0, 1001]), none, none, some (.ireturn, 1, (0, 99999, 0), []), some (.aload_n 0, 1, (0, 99999, 0), []), some (.getfield 10, 3, (1, 5, 0), [1182]), none, none, some (.aload_n 0, 1, (0, 99999, 0), []), some (.getfield 38, 3, (1, 5, 5), [1187]), none],
  [none, some (.getfield 196, 3, (1, 2, 0), [1121]), none, none, some (.invokevirtual 199, 3, (3, 55, 1), [3054, 2163, 2164, 1002]), none, none, some (.iload_n 3, 1, (0, 99999, 0), []), some (.ireturn, 1, (0, 99999, 0), [])]])
def mX5_fault : ab_D := (yX5_fault, cX5_fault, 1, some .int, 5, 0, false, [
  [some (.aload_n 0, 1, (0, 99999, 0), []), some (.getfield 57, 3, (1, 5, 9), [1191]), none, none, some (.ireturn, 1, (0, 99999, 0), [])]])
def mX5_price : ab_D := (yX5_price, cX5_price, 3, some .int, 5, 2, false, [
  [some (.aload_n 0, 1, (0, 99999, 0), []), some (.getfield 10, 3, (1, 5, 0), [1182]), none, none, some (.iload_n 1, 1, (0, 99999, 0), []), some (.invokevirtual 161, 3, (3, 51, 1), [2134, 2135, 2136, 1002]), none, none, some (.ifCond .eq 10, 3, (0, 99999, 0), []), none, none, some (.iload_n 2, 1, (0, 99999, 0), []), some (.invokestatic 146, 3, (4, 47, 1), [2110, 2111, 1002]), none, none, some (.ifCond .ne 9, 3, (0, 99999, 0), [])],
  [none, none, some (.aload_n 0, 1, (0, 99999, 0), []), some (.iconst 1, 1, (0, 99999, 0), []), some (.invokevirtual 66, 3, (3, 118, 1), [1220, 1222, 0, 1001]), none, none, some (.ireturn, 1, (0, 99999, 0), []), some (.aload_n 0, 1, (0, 99999, 0), []), some (.getfield 10, 3, (1, 5, 0), [1182]), none, none, some (.iload_n 1, 1, (0, 99999, 0), []), some (.iload_n 2, 1, (0, 99999, 0), []), some (.invokevirtual 203, 3, (3, 66, 2), [3064, 3065, 3066, 1002]), none],
  [none, some (.ireturn, 1, (0, 99999, 0), [])]])
def mX5_change : ab_D := (yX5_change, cX5_change, 3, some .int, 5, 2, false, [
  [some (.iload_n 2, 1, (0, 99999, 0), []), some (.invokestatic 207, 3, (4, 116, 1), [3080, 3081, 1001]), none, none, some (.ifCond .ne 12, 3, (0, 99999, 0), []), none, none, some (.aload_n 0, 1, (0, 99999, 0), []), some (.iconst 5, 1, (0, 99999, 0), []), some (.invokevirtual 66, 3, (3, 118, 1), [1220, 1222, 0, 1001]), none, none, some (.bipush 10, 2, (0, 99999, 0), []), none, some (.isub, 1, (0, 99999, 0), []), some (.ireturn, 1, (0, 99999, 0), [])],
  [some (.iload_n 1, 1, (0, 99999, 0), []), some (.invokestatic 210, 3, (4, 48, 1), [3083, 3084, 1002]), none, none, some (.ifCond .ne 13, 3, (0, 99999, 0), []), none, none, some (.aload_n 0, 1, (0, 99999, 0), []), some (.bipush 6, 2, (0, 99999, 0), []), none, some (.invokevirtual 66, 3, (3, 118, 1), [1220, 1222, 0, 1001]), none, none, some (.bipush 10, 2, (0, 99999, 0), []), none, some (.isub, 1, (0, 99999, 0), [])],
  [some (.ireturn, 1, (0, 99999, 0), []), some (.aload_n 0, 1, (0, 99999, 0), []), some (.getfield 31, 3, (1, 5, 4), [1186]), none, none, some (.aload_n 0, 1, (0, 99999, 0), []), some (.getfield 10, 3, (1, 5, 0), [1182]), none, none, some (.iload_n 2, 1, (0, 99999, 0), []), some (.iload_n 1, 1, (0, 99999, 0), []), some (.invokevirtual 213, 3, (3, 1, 3), [3086, 3087, 3088, 1003]), none, none, some (.ireturn, 1, (0, 99999, 0), [])]])
def mX5_harm : ab_D := (yX5_harm, cX5_harm, 4, some .int, 5, 2, false, [
  [some (.aload_n 0, 1, (0, 99999, 0), []), some (.getfield 10, 3, (1, 5, 0), [1182]), none, none, some (.iload_n 1, 1, (0, 99999, 0), []), some (.invokevirtual 161, 3, (3, 51, 1), [2134, 2135, 2136, 1002]), none, none, some (.ifCond .ne 12, 3, (0, 99999, 0), []), none, none, some (.aload_n 0, 1, (0, 99999, 0), []), some (.iconst 1, 1, (0, 99999, 0), []), some (.invokevirtual 66, 3, (3, 118, 1), [1220, 1222, 0, 1001]), none, none],
  [some (.bipush 10, 2, (0, 99999, 0), []), none, some (.isub, 1, (0, 99999, 0), []), some (.ireturn, 1, (0, 99999, 0), []), some (.iload_n 2, 1, (0, 99999, 0), []), some (.invokestatic 210, 3, (4, 48, 1), [3083, 3084, 1002]), none, none, some (.ifCond .ne 13, 3, (0, 99999, 0), []), none, none, some (.aload_n 0, 1, (0, 99999, 0), []), some (.bipush 6, 2, (0, 99999, 0), []), none, some (.invokevirtual 66, 3, (3, 118, 1), [1220, 1222, 0, 1001]), none],
  [none, some (.bipush 10, 2, (0, 99999, 0), []), none, some (.isub, 1, (0, 99999, 0), []), some (.ireturn, 1, (0, 99999, 0), []), some (.aload_n 0, 1, (0, 99999, 0), []), some (.aload_n 0, 1, (0, 99999, 0), []), some (.getfield 10, 3, (1, 5, 0), [1182]), none, none, some (.iload_n 1, 1, (0, 99999, 0), []), some (.iload_n 2, 1, (0, 99999, 0), []), some (.invokevirtual 217, 3, (3, 122, 3), [3132, 3134, 19, 1001]), none, none, some (.istore_n 3, 1, (0, 99999, 0), [])],
  [some (.iload_n 3, 1, (0, 99999, 0), []), some (.iconst (-1), 1, (0, 99999, 0), []), some (.if_icmp .ne 7, 3, (0, 99999, 0), []), none, none, some (.iconst (-1), 1, (0, 99999, 0), []), some (.goto 11, 3, (0, 99999, 0), []), none, none, some (.aload_n 0, 1, (0, 99999, 0), []), some (.getfield 10, 3, (1, 5, 0), [1182]), none, none, some (.iload_n 3, 1, (0, 99999, 0), []), some (.invokevirtual 220, 3, (3, 61, 1), [3136, 3137, 3138, 1002]), none],
  [none, some (.ireturn, 1, (0, 99999, 0), [])]])
def mX5_best : ab_D := (yX5_best, cX5_best, 4, some .int, 5, 2, false, [
  [some (.aload_n 0, 1, (0, 99999, 0), []), some (.getfield 10, 3, (1, 5, 0), [1182]), none, none, some (.iload_n 1, 1, (0, 99999, 0), []), some (.invokevirtual 161, 3, (3, 51, 1), [2134, 2135, 2136, 1002]), none, none, some (.ifCond .ne 12, 3, (0, 99999, 0), []), none, none, some (.aload_n 0, 1, (0, 99999, 0), []), some (.iconst 1, 1, (0, 99999, 0), []), some (.invokevirtual 66, 3, (3, 118, 1), [1220, 1222, 0, 1001]), none, none],
  [some (.bipush 10, 2, (0, 99999, 0), []), none, some (.isub, 1, (0, 99999, 0), []), some (.ireturn, 1, (0, 99999, 0), []), some (.iload_n 2, 1, (0, 99999, 0), []), some (.invokestatic 207, 3, (4, 116, 1), [3080, 3081, 1001]), none, none, some (.ifCond .ne 12, 3, (0, 99999, 0), []), none, none, some (.aload_n 0, 1, (0, 99999, 0), []), some (.iconst 5, 1, (0, 99999, 0), []), some (.invokevirtual 66, 3, (3, 118, 1), [1220, 1222, 0, 1001]), none, none],
  [some (.bipush 10, 2, (0, 99999, 0), []), none, some (.isub, 1, (0, 99999, 0), []), some (.ireturn, 1, (0, 99999, 0), []), some (.aload_n 0, 1, (0, 99999, 0), []), some (.getfield 10, 3, (1, 5, 0), [1182]), none, none, some (.iload_n 1, 1, (0, 99999, 0), []), some (.invokevirtual 223, 3, (3, 68, 1), [3145, 3146, 3147, 1002]), none, none, some (.istore_n 3, 1, (0, 99999, 0), []), some (.iload_n 2, 1, (0, 99999, 0), []), some (.ifCond .eq 8, 3, (0, 99999, 0), []), none],
  [none, some (.iload_n 3, 1, (0, 99999, 0), []), some (.iconst (-1), 1, (0, 99999, 0), []), some (.if_icmp .ne 7, 3, (0, 99999, 0), []), none, none, some (.iload_n 3, 1, (0, 99999, 0), []), some (.goto 4, 3, (0, 99999, 0), []), none, none, some (.iconst 0, 1, (0, 99999, 0), []), some (.ireturn, 1, (0, 99999, 0), [])]])
def mX5_fails : ab_D := (yX5_fails, cX5_fails, 7, some .int, 5, 1, false, [
  [some (.iload_n 1, 1, (0, 99999, 0), []), some (.invokestatic 207, 3, (4, 116, 1), [3080, 3081, 1001]), none, none, some (.ifCond .ne 12, 3, (0, 99999, 0), []), none, none, some (.aload_n 0, 1, (0, 99999, 0), []), some (.iconst 5, 1, (0, 99999, 0), []), some (.invokevirtual 66, 3, (3, 118, 1), [1220, 1222, 0, 1001]), none, none, some (.bipush 10, 2, (0, 99999, 0), []), none, some (.isub, 1, (0, 99999, 0), []), some (.ireturn, 1, (0, 99999, 0), [])],
  [some (.aload_n 0, 1, (0, 99999, 0), []), some (.getfield 31, 3, (1, 5, 4), [1186]), none, none, some (.aload_n 0, 1, (0, 99999, 0), []), some (.getfield 10, 3, (1, 5, 0), [1182]), none, none, some (.aload_n 0, 1, (0, 99999, 0), []), some (.getfield 10, 3, (1, 5, 0), [1182]), none, none, some (.invokevirtual 226, 3, (3, 63, 0), [3154, 3095, 3096, 1002]), none, none, some (.invokevirtual 230, 3, (3, 2, 2), [3155, 3109, 3110, 1003])],
  [none, none, some (.iconst 1, 1, (0, 99999, 0), []), some (.istore_n 2, 1, (0, 99999, 0), []), some (.iload_n 2, 1, (0, 99999, 0), []), some (.bipush 100, 2, (0, 99999, 0), []), none, some (.if_icmp .ge 90, 3, (0, 99999, 0), []), none, none, some (.aload_n 0, 1, (0, 99999, 0), []), some (.getfield 31, 3, (1, 5, 4), [1186]), none, none, some (.iload_n 2, 1, (0, 99999, 0), []), some (.invokevirtual 234, 3, (3, 4, 1), [3156, 3124, 3125, 1003])],
  [none, none, some (.istore_n 3, 1, (0, 99999, 0), []), some (.aload_n 0, 1, (0, 99999, 0), []), some (.getfield 10, 3, (1, 5, 0), [1182]), none, none, some (.iload_n 2, 1, (0, 99999, 0), []), some (.invokevirtual 237, 3, (3, 69, 1), [3157, 3091, 3092, 1002]), none, none, some (.istore 4, 2, (0, 99999, 0), []), none, some (.iload_n 3, 1, (0, 99999, 0), []), some (.iconst (-1), 1, (0, 99999, 0), []), some (.if_icmp .eq 13, 3, (0, 99999, 0), [])],
  [none, none, some (.iload 4, 2, (0, 99999, 0), []), none, some (.iconst (-1), 1, (0, 99999, 0), []), some (.if_icmp .ne 7, 3, (0, 99999, 0), []), none, none, some (.iconst 1, 1, (0, 99999, 0), []), some (.goto 4, 3, (0, 99999, 0), []), none, none, some (.iconst 0, 1, (0, 99999, 0), []), some (.istore 5, 2, (0, 99999, 0), []), none, some (.iload 4, 2, (0, 99999, 0), [])],
  [none, some (.iconst (-1), 1, (0, 99999, 0), []), some (.if_icmp .eq 19, 3, (0, 99999, 0), []), none, none, some (.iload 4, 2, (0, 99999, 0), []), none, some (.invokestatic 240, 3, (4, 213, 1), [3158, 3159, 1015]), none, none, some (.iload_n 3, 1, (0, 99999, 0), []), some (.invokestatic 240, 3, (4, 213, 1), [3158, 3159, 1015]), none, none, some (.if_icmp .le 7, 3, (0, 99999, 0), []), none],
  [none, some (.iconst 1, 1, (0, 99999, 0), []), some (.goto 4, 3, (0, 99999, 0), []), none, none, some (.iconst 0, 1, (0, 99999, 0), []), some (.istore 6, 2, (0, 99999, 0), []), none, some (.iload_n 1, 1, (0, 99999, 0), []), some (.ifCond .ne 11, 3, (0, 99999, 0), []), none, none, some (.iload 5, 2, (0, 99999, 0), []), none, some (.ifCond .eq 13, 3, (0, 99999, 0), []), none],
  [none, some (.goto 8, 3, (0, 99999, 0), []), none, none, some (.iload 6, 2, (0, 99999, 0), []), none, some (.ifCond .eq 5, 3, (0, 99999, 0), []), none, none, some (.iload_n 2, 1, (0, 99999, 0), []), some (.ireturn, 1, (0, 99999, 0), []), some (.iinc 2 1, 3, (0, 99999, 0), []), none, none, some (.goto (-90), 3, (0, 99999, 0), []), none],
  [none, some (.iconst (-1), 1, (0, 99999, 0), []), some (.ireturn, 1, (0, 99999, 0), [])]])
def mX5_amounts : ab_D := (yX5_amounts, cX5_amounts, 4, some .int, 5, 1, false, [
  [some (.iload_n 1, 1, (0, 99999, 0), []), some (.ifCond .ne 22, 3, (0, 99999, 0), []), none, none, some (.aload_n 0, 1, (0, 99999, 0), []), some (.getfield 31, 3, (1, 5, 4), [1186]), none, none, some (.aload_n 0, 1, (0, 99999, 0), []), some (.getfield 10, 3, (1, 5, 0), [1182]), none, none, some (.aload_n 0, 1, (0, 99999, 0), []), some (.getfield 10, 3, (1, 5, 0), [1182]), none, none],
  [some (.invokevirtual 226, 3, (3, 63, 0), [3154, 3095, 3096, 1002]), none, none, some (.invokevirtual 245, 3, (3, 5, 2), [3168, 3169, 3170, 1003]), none, none, some (.ireturn, 1, (0, 99999, 0), []), some (.iload_n 1, 1, (0, 99999, 0), []), some (.iconst 1, 1, (0, 99999, 0), []), some (.if_icmp .eq 9, 3, (0, 99999, 0), []), none, none, some (.aload_n 0, 1, (0, 99999, 0), []), some (.iconst 5, 1, (0, 99999, 0), []), some (.invokevirtual 66, 3, (3, 118, 1), [1220, 1222, 0, 1001]), none],
  [none, some (.ireturn, 1, (0, 99999, 0), []), some (.iconst 0, 1, (0, 99999, 0), []), some (.istore_n 2, 1, (0, 99999, 0), []), some (.iconst 1, 1, (0, 99999, 0), []), some (.istore_n 3, 1, (0, 99999, 0), []), some (.iload_n 3, 1, (0, 99999, 0), []), some (.bipush 100, 2, (0, 99999, 0), []), none, some (.if_icmp .ge 24, 3, (0, 99999, 0), []), none, none, some (.aload_n 0, 1, (0, 99999, 0), []), some (.getfield 10, 3, (1, 5, 0), [1182]), none, none],
  [some (.iload_n 3, 1, (0, 99999, 0), []), some (.invokevirtual 237, 3, (3, 69, 1), [3157, 3091, 3092, 1002]), none, none, some (.iconst (-1), 1, (0, 99999, 0), []), some (.if_icmp .eq 6, 3, (0, 99999, 0), []), none, none, some (.iinc 2 1, 3, (0, 99999, 0), []), none, none, some (.iinc 3 1, 3, (0, 99999, 0), []), none, none, some (.goto (-24), 3, (0, 99999, 0), []), none],
  [none, some (.iload_n 2, 1, (0, 99999, 0), []), some (.ireturn, 1, (0, 99999, 0), [])]])
def mX5_run : ab_D := (yX5_run, cX5_run, 4, some .int, 5, 1, false, [
  [some (.iload_n 1, 1, (0, 99999, 0), []), some (.iconst (-1), 1, (0, 99999, 0), []), some (.if_icmp .lt 14, 3, (0, 99999, 0), []), none, none, some (.iload_n 1, 1, (0, 99999, 0), []), some (.aload_n 0, 1, (0, 99999, 0), []), some (.getfield 10, 3, (1, 5, 0), [1182]), none, none, some (.getfield 249, 3, (1, 4, 10), [1058]), none, none, some (.if_icmp .lt 9, 3, (0, 99999, 0), []), none, none],
  [some (.aload_n 0, 1, (0, 99999, 0), []), some (.iconst 5, 1, (0, 99999, 0), []), some (.invokevirtual 66, 3, (3, 118, 1), [1220, 1222, 0, 1001]), none, none, some (.ireturn, 1, (0, 99999, 0), []), some (.iload_n 1, 1, (0, 99999, 0), []), some (.iconst (-1), 1, (0, 99999, 0), []), some (.if_icmp .eq 5, 3, (0, 99999, 0), []), none, none, some (.iload_n 1, 1, (0, 99999, 0), []), some (.ireturn, 1, (0, 99999, 0), []), some (.iconst 0, 1, (0, 99999, 0), []), some (.istore_n 2, 1, (0, 99999, 0), []), some (.iconst 0, 1, (0, 99999, 0), [])],
  [some (.istore_n 3, 1, (0, 99999, 0), []), some (.iload_n 3, 1, (0, 99999, 0), []), some (.aload_n 0, 1, (0, 99999, 0), []), some (.getfield 10, 3, (1, 5, 0), [1182]), none, none, some (.getfield 249, 3, (1, 4, 10), [1058]), none, none, some (.if_icmp .ge 24, 3, (0, 99999, 0), []), none, none, some (.aload_n 0, 1, (0, 99999, 0), []), some (.getfield 10, 3, (1, 5, 0), [1182]), none, none],
  [some (.iload_n 3, 1, (0, 99999, 0), []), some (.invokevirtual 223, 3, (3, 68, 1), [3145, 3146, 3147, 1002]), none, none, some (.iconst (-1), 1, (0, 99999, 0), []), some (.if_icmp .eq 6, 3, (0, 99999, 0), []), none, none, some (.iinc 2 1, 3, (0, 99999, 0), []), none, none, some (.iinc 3 1, 3, (0, 99999, 0), []), none, none, some (.goto (-29), 3, (0, 99999, 0), []), none],
  [none, some (.iload_n 2, 1, (0, 99999, 0), []), some (.ireturn, 1, (0, 99999, 0), [])]])
def mX5_rules : ab_D := (yX5_rules, cX5_rules, 8, some .int, 5, 2, false, [
  [some (.aload_n 0, 1, (0, 99999, 0), []), some (.iload_n 1, 1, (0, 99999, 0), []), some (.iload_n 2, 1, (0, 99999, 0), []), some (.bipush 40, 2, (0, 99999, 0), []), none, some (.iconst 0, 1, (0, 99999, 0), []), some (.invokevirtual 252, 3, (3, 120, 4), [3180, 3182, 20, 1001]), none, none, some (.istore_n 3, 1, (0, 99999, 0), []), some (.iload_n 3, 1, (0, 99999, 0), []), some (.ifCond .eq 9, 3, (0, 99999, 0), []), none, none, some (.aload_n 0, 1, (0, 99999, 0), []), some (.iload_n 3, 1, (0, 99999, 0), [])],
  [some (.invokevirtual 66, 3, (3, 118, 1), [1220, 1222, 0, 1001]), none, none, some (.ireturn, 1, (0, 99999, 0), []), some (.aload_n 0, 1, (0, 99999, 0), []), some (.getfield 24, 3, (1, 5, 3), [1185]), none, none, some (.iload_n 1, 1, (0, 99999, 0), []), some (.aaload, 1, (0, 99999, 0), []), some (.astore 4, 2, (0, 99999, 0), []), none, some (.iconst 0, 1, (0, 99999, 0), []), some (.istore 5, 2, (0, 99999, 0), []), none, some (.iload 5, 2, (0, 99999, 0), [])],
  [none, some (.iload_n 2, 1, (0, 99999, 0), []), some (.if_icmp .ge 29, 3, (0, 99999, 0), []), none, none, some (.aload 4, 2, (0, 99999, 0), []), none, some (.iload 5, 2, (0, 99999, 0), []), none, some (.invokevirtual 256, 3, (3, 43, 1), [3184, 3185, 3186, 1006]), none, none, some (.invokestatic 210, 3, (4, 48, 1), [3083, 3084, 1002]), none, none, some (.ifCond .ne 10, 3, (0, 99999, 0), [])],
  [none, none, some (.aload_n 0, 1, (0, 99999, 0), []), some (.bipush 6, 2, (0, 99999, 0), []), none, some (.invokevirtual 66, 3, (3, 118, 1), [1220, 1222, 0, 1001]), none, none, some (.ireturn, 1, (0, 99999, 0), []), some (.iinc 5 1, 3, (0, 99999, 0), []), none, none, some (.goto (-29), 3, (0, 99999, 0), []), none, none, some (.aload_n 0, 1, (0, 99999, 0), [])],
  [some (.getfield 31, 3, (1, 5, 4), [1186]), none, none, some (.aload_n 0, 1, (0, 99999, 0), []), some (.getfield 10, 3, (1, 5, 0), [1182]), none, none, some (.aload_n 0, 1, (0, 99999, 0), []), some (.getfield 10, 3, (1, 5, 0), [1182]), none, none, some (.invokevirtual 226, 3, (3, 63, 0), [3154, 3095, 3096, 1002]), none, none, some (.invokevirtual 230, 3, (3, 2, 2), [3155, 3109, 3110, 1003]), none],
  [none, some (.iconst 1, 1, (0, 99999, 0), []), some (.istore 5, 2, (0, 99999, 0), []), none, some (.iconst 1, 1, (0, 99999, 0), []), some (.istore 6, 2, (0, 99999, 0), []), none, some (.iconst 0, 1, (0, 99999, 0), []), some (.istore 7, 2, (0, 99999, 0), []), none, some (.iload 7, 2, (0, 99999, 0), []), none, some (.iload_n 2, 1, (0, 99999, 0), []), some (.if_icmp .ge 81, 3, (0, 99999, 0), []), none, none],
  [some (.iload 5, 2, (0, 99999, 0), []), none, some (.ifCond .eq 31, 3, (0, 99999, 0), []), none, none, some (.aload_n 0, 1, (0, 99999, 0), []), some (.getfield 31, 3, (1, 5, 4), [1186]), none, none, some (.aload 4, 2, (0, 99999, 0), []), none, some (.iload 7, 2, (0, 99999, 0), []), none, some (.invokevirtual 256, 3, (3, 43, 1), [3184, 3185, 3186, 1006]), none, none],
  [some (.invokevirtual 234, 3, (3, 4, 1), [3156, 3124, 3125, 1003]), none, none, some (.aload 4, 2, (0, 99999, 0), []), none, some (.iload 7, 2, (0, 99999, 0), []), none, some (.invokevirtual 259, 3, (3, 44, 1), [3188, 3189, 3190, 1006]), none, none, some (.if_icmp .ne 7, 3, (0, 99999, 0), []), none, none, some (.iconst 1, 1, (0, 99999, 0), []), some (.goto 4, 3, (0, 99999, 0), []), none],
  [none, some (.iconst 0, 1, (0, 99999, 0), []), some (.istore 5, 2, (0, 99999, 0), []), none, some (.iload 6, 2, (0, 99999, 0), []), none, some (.ifCond .eq 31, 3, (0, 99999, 0), []), none, none, some (.aload_n 0, 1, (0, 99999, 0), []), some (.getfield 10, 3, (1, 5, 0), [1182]), none, none, some (.aload 4, 2, (0, 99999, 0), []), none, some (.iload 7, 2, (0, 99999, 0), [])],
  [none, some (.invokevirtual 256, 3, (3, 43, 1), [3184, 3185, 3186, 1006]), none, none, some (.invokevirtual 237, 3, (3, 69, 1), [3157, 3091, 3092, 1002]), none, none, some (.aload 4, 2, (0, 99999, 0), []), none, some (.iload 7, 2, (0, 99999, 0), []), none, some (.invokevirtual 259, 3, (3, 44, 1), [3188, 3189, 3190, 1006]), none, none, some (.if_icmp .ne 7, 3, (0, 99999, 0), []), none],
  [none, some (.iconst 1, 1, (0, 99999, 0), []), some (.goto 4, 3, (0, 99999, 0), []), none, none, some (.iconst 0, 1, (0, 99999, 0), []), some (.istore 6, 2, (0, 99999, 0), []), none, some (.iinc 7 1, 3, (0, 99999, 0), []), none, none, some (.goto (-81), 3, (0, 99999, 0), []), none, none, some (.iload 5, 2, (0, 99999, 0), []), none],
  [some (.ifCond .eq 7, 3, (0, 99999, 0), []), none, none, some (.iconst 1, 1, (0, 99999, 0), []), some (.goto 4, 3, (0, 99999, 0), []), none, none, some (.iconst 0, 1, (0, 99999, 0), []), some (.iload 6, 2, (0, 99999, 0), []), none, some (.ifCond .eq 7, 3, (0, 99999, 0), []), none, none, some (.iconst 2, 1, (0, 99999, 0), []), some (.goto 4, 3, (0, 99999, 0), []), none],
  [none, some (.iconst 0, 1, (0, 99999, 0), []), some (.ior, 1, (0, 99999, 0), []), some (.ireturn, 1, (0, 99999, 0), [])]])
def mX5_costs : ab_D := (yX5_costs, cX5_costs, 9, some .int, 5, 4, false, [
  [some (.iload_n 3, 1, (0, 99999, 0), []), some (.invokestatic 146, 3, (4, 47, 1), [2110, 2111, 1002]), none, none, some (.ifCond .eq 27, 3, (0, 99999, 0), []), none, none, some (.aload_n 0, 1, (0, 99999, 0), []), some (.iload_n 1, 1, (0, 99999, 0), []), some (.iload_n 2, 1, (0, 99999, 0), []), some (.bipush 40, 2, (0, 99999, 0), []), none, some (.iload 4, 2, (0, 99999, 0), []), none, some (.invokestatic 207, 3, (4, 116, 1), [3080, 3081, 1001]), none],
  [none, some (.ifCond .ne 7, 3, (0, 99999, 0), []), none, none, some (.iconst 1, 1, (0, 99999, 0), []), some (.goto 4, 3, (0, 99999, 0), []), none, none, some (.iconst 0, 1, (0, 99999, 0), []), some (.invokevirtual 252, 3, (3, 120, 4), [3180, 3182, 20, 1001]), none, none, some (.goto 4, 3, (0, 99999, 0), []), none, none, some (.iconst 1, 1, (0, 99999, 0), [])],
  [some (.istore 5, 2, (0, 99999, 0), []), none, some (.iload 5, 2, (0, 99999, 0), []), none, some (.ifCond .ne 20, 3, (0, 99999, 0), []), none, none, some (.aload_n 0, 1, (0, 99999, 0), []), some (.aload_n 0, 1, (0, 99999, 0), []), some (.getfield 24, 3, (1, 5, 3), [1185]), none, none, some (.iload_n 1, 1, (0, 99999, 0), []), some (.aaload, 1, (0, 99999, 0), []), some (.iload_n 2, 1, (0, 99999, 0), []), some (.invokevirtual 262, 3, (3, 124, 2), [3196, 3198, 21, 1001])],
  [none, none, some (.ifCond .ne 6, 3, (0, 99999, 0), []), none, none, some (.iconst 1, 1, (0, 99999, 0), []), some (.istore 5, 2, (0, 99999, 0), []), none, some (.iload 5, 2, (0, 99999, 0), []), none, some (.ifCond .eq 13, 3, (0, 99999, 0), []), none, none, some (.aload_n 0, 1, (0, 99999, 0), []), some (.iload 5, 2, (0, 99999, 0), []), none],
  [some (.invokevirtual 66, 3, (3, 118, 1), [1220, 1222, 0, 1001]), none, none, some (.bipush 10, 2, (0, 99999, 0), []), none, some (.isub, 1, (0, 99999, 0), []), some (.ireturn, 1, (0, 99999, 0), []), some (.iconst 0, 1, (0, 99999, 0), []), some (.istore 6, 2, (0, 99999, 0), []), none, some (.iconst (-1), 1, (0, 99999, 0), []), some (.istore 7, 2, (0, 99999, 0), []), none, some (.bipush 60, 2, (0, 99999, 0), []), none, some (.istore 8, 2, (0, 99999, 0), [])],
  [none, some (.iload 8, 2, (0, 99999, 0), []), none, some (.ifCond .le 33, 3, (0, 99999, 0), []), none, none, some (.aload_n 0, 1, (0, 99999, 0), []), some (.aload_n 0, 1, (0, 99999, 0), []), some (.getfield 24, 3, (1, 5, 3), [1185]), none, none, some (.iload_n 1, 1, (0, 99999, 0), []), some (.aaload, 1, (0, 99999, 0), []), some (.iload_n 2, 1, (0, 99999, 0), []), some (.iload_n 3, 1, (0, 99999, 0), []), some (.iload 8, 2, (0, 99999, 0), [])],
  [none, some (.invokevirtual 266, 3, (3, 125, 4), [3200, 3202, 22, 1001]), none, none, some (.ifCond .eq 10, 3, (0, 99999, 0), []), none, none, some (.iinc 6 1, 3, (0, 99999, 0), []), none, none, some (.iload 8, 2, (0, 99999, 0), []), none, some (.istore 7, 2, (0, 99999, 0), []), none, some (.iinc 8 (-1), 3, (0, 99999, 0), []), none],
  [none, some (.goto (-32), 3, (0, 99999, 0), []), none, none, some (.iload 4, 2, (0, 99999, 0), []), none, some (.ifCond .ne 8, 3, (0, 99999, 0), []), none, none, some (.iload 6, 2, (0, 99999, 0), []), none, some (.goto 5, 3, (0, 99999, 0), []), none, none, some (.iload 7, 2, (0, 99999, 0), []), none],
  [some (.ireturn, 1, (0, 99999, 0), [])]])
def mX5_dear : ab_D := (yX5_dear, cX5_dear, 2, some .int, 5, 1, false, [
  [some (.iload_n 1, 1, (0, 99999, 0), []), some (.lookupswitch 37 #[(0, 27), (1, 32)], 27, (0, 99999, 0), []), none, none, none, none, none, none, none, none, none, none, none, none, none, none],
  [none, none, none, none, none, none, none, none, none, none, none, none, some (.aload_n 0, 1, (0, 99999, 0), []), some (.invokevirtual 270, 3, (3, 126, 0), [3209, 3211, 23, 1001]), none, none],
  [some (.ireturn, 1, (0, 99999, 0), []), some (.aload_n 0, 1, (0, 99999, 0), []), some (.invokevirtual 273, 3, (3, 127, 0), [3214, 3216, 24, 1001]), none, none, some (.ireturn, 1, (0, 99999, 0), []), some (.aload_n 0, 1, (0, 99999, 0), []), some (.iconst 5, 1, (0, 99999, 0), []), some (.invokevirtual 66, 3, (3, 118, 1), [1220, 1222, 0, 1001]), none, none, some (.bipush 10, 2, (0, 99999, 0), []), none, some (.isub, 1, (0, 99999, 0), []), some (.ireturn, 1, (0, 99999, 0), [])]])
def mX5_rich : ab_D := (yX5_rich, cX5_rich, 3, some .int, 5, 1, false, [
  [some (.aload_n 0, 1, (0, 99999, 0), []), some (.getfield 10, 3, (1, 5, 0), [1182]), none, none, some (.iload_n 1, 1, (0, 99999, 0), []), some (.invokevirtual 161, 3, (3, 51, 1), [2134, 2135, 2136, 1002]), none, none, some (.ifCond .ne 13, 3, (0, 99999, 0), []), none, none, some (.aload_n 0, 1, (0, 99999, 0), []), some (.iconst 1, 1, (0, 99999, 0), []), some (.invokevirtual 66, 3, (3, 118, 1), [1220, 1222, 0, 1001]), none, none],
  [some (.sipush 1000, 3, (0, 99999, 0), []), none, none, some (.isub, 1, (0, 99999, 0), []), some (.ireturn, 1, (0, 99999, 0), []), some (.aload_n 0, 1, (0, 99999, 0), []), some (.getfield 10, 3, (1, 5, 0), [1182]), none, none, some (.iload_n 1, 1, (0, 99999, 0), []), some (.invokevirtual 186, 3, (3, 62, 1), [2150, 2151, 2152, 1002]), none, none, some (.istore_n 2, 1, (0, 99999, 0), []), some (.aload_n 0, 1, (0, 99999, 0), []), some (.getfield 10, 3, (1, 5, 0), [1182])],
  [none, none, some (.iload_n 2, 1, (0, 99999, 0), []), some (.invokevirtual 276, 3, (3, 60, 1), [3223, 3224, 3225, 1002]), none, none, some (.aload_n 0, 1, (0, 99999, 0), []), some (.getfield 10, 3, (1, 5, 0), [1182]), none, none, some (.getfield 164, 3, (1, 4, 4), [1042]), none, none, some (.iload_n 1, 1, (0, 99999, 0), []), some (.iaload, 1, (0, 99999, 0), []), some (.iadd, 1, (0, 99999, 0), [])],
  [some (.aload_n 0, 1, (0, 99999, 0), []), some (.getfield 10, 3, (1, 5, 0), [1182]), none, none, some (.iload_n 2, 1, (0, 99999, 0), []), some (.invokevirtual 220, 3, (3, 61, 1), [3136, 3137, 3138, 1002]), none, none, some (.isub, 1, (0, 99999, 0), []), some (.ireturn, 1, (0, 99999, 0), [])]])
def mX5_judge : ab_D := (yX5_judge, cX5_judge, 4, some .int, 5, 2, false, [
  [some (.aload_n 0, 1, (0, 99999, 0), []), some (.iload_n 1, 1, (0, 99999, 0), []), some (.iload_n 2, 1, (0, 99999, 0), []), some (.bipush 20, 2, (0, 99999, 0), []), none, some (.iconst 0, 1, (0, 99999, 0), []), some (.invokevirtual 252, 3, (3, 120, 4), [3180, 3182, 20, 1001]), none, none, some (.istore_n 3, 1, (0, 99999, 0), []), some (.iload_n 3, 1, (0, 99999, 0), []), some (.ifCond .eq 12, 3, (0, 99999, 0), []), none, none, some (.aload_n 0, 1, (0, 99999, 0), []), some (.iload_n 3, 1, (0, 99999, 0), [])],
  [some (.invokevirtual 66, 3, (3, 118, 1), [1220, 1222, 0, 1001]), none, none, some (.bipush 10, 2, (0, 99999, 0), []), none, some (.isub, 1, (0, 99999, 0), []), some (.ireturn, 1, (0, 99999, 0), []), some (.aload_n 0, 1, (0, 99999, 0), []), some (.aload_n 0, 1, (0, 99999, 0), []), some (.getfield 24, 3, (1, 5, 3), [1185]), none, none, some (.iload_n 1, 1, (0, 99999, 0), []), some (.aaload, 1, (0, 99999, 0), []), some (.iload_n 2, 1, (0, 99999, 0), []), some (.invokevirtual 279, 3, (3, 123, 2), [3231, 3233, 25, 1001])],
  [none, none, some (.ireturn, 1, (0, 99999, 0), [])]])
def mX5_behind : ab_D := (yX5_behind, cX5_behind, 5, some .int, 5, 3, false, [
  [some (.aload_n 0, 1, (0, 99999, 0), []), some (.iload_n 1, 1, (0, 99999, 0), []), some (.iload_n 2, 1, (0, 99999, 0), []), some (.bipush 20, 2, (0, 99999, 0), []), none, some (.iload_n 3, 1, (0, 99999, 0), []), some (.iconst 0, 1, (0, 99999, 0), []), some (.iconst 2, 1, (0, 99999, 0), []), some (.invokestatic 135, 3, (4, 115, 3), [1224, 1225, 1001]), none, none, some (.ifCond .ne 7, 3, (0, 99999, 0), []), none, none, some (.iconst 1, 1, (0, 99999, 0), []), some (.goto 4, 3, (0, 99999, 0), [])],
  [none, none, some (.iconst 0, 1, (0, 99999, 0), []), some (.invokevirtual 252, 3, (3, 120, 4), [3180, 3182, 20, 1001]), none, none, some (.istore 4, 2, (0, 99999, 0), []), none, some (.iload 4, 2, (0, 99999, 0), []), none, some (.ifCond .ne 22, 3, (0, 99999, 0), []), none, none, some (.aload_n 0, 1, (0, 99999, 0), []), some (.aload_n 0, 1, (0, 99999, 0), []), some (.getfield 24, 3, (1, 5, 3), [1185])],
  [none, none, some (.iload_n 1, 1, (0, 99999, 0), []), some (.aaload, 1, (0, 99999, 0), []), some (.iload_n 2, 1, (0, 99999, 0), []), some (.invokevirtual 279, 3, (3, 123, 2), [3231, 3233, 25, 1001]), none, none, some (.iconst (-1), 1, (0, 99999, 0), []), some (.if_icmp .eq 7, 3, (0, 99999, 0), []), none, none, some (.bipush 6, 2, (0, 99999, 0), []), none, some (.istore 4, 2, (0, 99999, 0), []), none],
  [some (.iload 4, 2, (0, 99999, 0), []), none, some (.ifCond .eq 10, 3, (0, 99999, 0), []), none, none, some (.aload_n 0, 1, (0, 99999, 0), []), some (.iload 4, 2, (0, 99999, 0), []), none, some (.invokevirtual 66, 3, (3, 118, 1), [1220, 1222, 0, 1001]), none, none, some (.ireturn, 1, (0, 99999, 0), []), some (.iload_n 3, 1, (0, 99999, 0), []), some (.lookupswitch 59 #[(0, 27), (1, 29)], 27, (0, 99999, 0), []), none, none],
  [none, none, none, none, none, none, none, none, none, none, none, none, none, none, none, none],
  [none, none, none, none, none, none, none, none, some (.iload_n 2, 1, (0, 99999, 0), []), some (.ireturn, 1, (0, 99999, 0), []), some (.aload_n 0, 1, (0, 99999, 0), []), some (.getfield 10, 3, (1, 5, 0), [1182]), none, none, some (.aload_n 0, 1, (0, 99999, 0), []), some (.getfield 10, 3, (1, 5, 0), [1182])],
  [none, none, some (.invokevirtual 226, 3, (3, 63, 0), [3154, 3095, 3096, 1002]), none, none, some (.invokevirtual 220, 3, (3, 61, 1), [3136, 3137, 3138, 1002]), none, none, some (.aload_n 0, 1, (0, 99999, 0), []), some (.getfield 16, 3, (1, 5, 1), [1183]), none, none, some (.aload_n 0, 1, (0, 99999, 0), []), some (.getfield 16, 3, (1, 5, 1), [1183]), none, none],
  [some (.invokevirtual 226, 3, (3, 63, 0), [3154, 3095, 3096, 1002]), none, none, some (.invokevirtual 220, 3, (3, 61, 1), [3136, 3137, 3138, 1002]), none, none, some (.isub, 1, (0, 99999, 0), []), some (.ireturn, 1, (0, 99999, 0), []), some (.aload_n 0, 1, (0, 99999, 0), []), some (.getfield 16, 3, (1, 5, 1), [1183]), none, none, some (.getfield 283, 3, (1, 4, 12), [1063]), none, none, some (.aload_n 0, 1, (0, 99999, 0), [])],
  [some (.getfield 10, 3, (1, 5, 0), [1182]), none, none, some (.getfield 283, 3, (1, 4, 12), [1063]), none, none, some (.isub, 1, (0, 99999, 0), []), some (.ireturn, 1, (0, 99999, 0), [])]])
def mX5_done : ab_D := (yX5_done, cX5_done, 4, some .int, 5, 2, false, [
  [some (.aload_n 0, 1, (0, 99999, 0), []), some (.iload_n 1, 1, (0, 99999, 0), []), some (.iload_n 2, 1, (0, 99999, 0), []), some (.bipush 20, 2, (0, 99999, 0), []), none, some (.iconst 0, 1, (0, 99999, 0), []), some (.invokevirtual 252, 3, (3, 120, 4), [3180, 3182, 20, 1001]), none, none, some (.istore_n 3, 1, (0, 99999, 0), []), some (.iload_n 3, 1, (0, 99999, 0), []), some (.ifCond .ne 21, 3, (0, 99999, 0), []), none, none, some (.aload_n 0, 1, (0, 99999, 0), []), some (.aload_n 0, 1, (0, 99999, 0), [])],
  [some (.getfield 24, 3, (1, 5, 3), [1185]), none, none, some (.iload_n 1, 1, (0, 99999, 0), []), some (.aaload, 1, (0, 99999, 0), []), some (.iload_n 2, 1, (0, 99999, 0), []), some (.invokevirtual 279, 3, (3, 123, 2), [3231, 3233, 25, 1001]), none, none, some (.iconst (-1), 1, (0, 99999, 0), []), some (.if_icmp .eq 6, 3, (0, 99999, 0), []), none, none, some (.bipush 6, 2, (0, 99999, 0), []), none, some (.istore_n 3, 1, (0, 99999, 0), [])],
  [some (.iload_n 3, 1, (0, 99999, 0), []), some (.ifCond .eq 9, 3, (0, 99999, 0), []), none, none, some (.aload_n 0, 1, (0, 99999, 0), []), some (.iload_n 3, 1, (0, 99999, 0), []), some (.invokevirtual 66, 3, (3, 118, 1), [1220, 1222, 0, 1001]), none, none, some (.ireturn, 1, (0, 99999, 0), []), some (.aload_n 0, 1, (0, 99999, 0), []), some (.getfield 10, 3, (1, 5, 0), [1182]), none, none, some (.aload_n 0, 1, (0, 99999, 0), []), some (.getfield 16, 3, (1, 5, 1), [1183])],
  [none, none, some (.invokevirtual 199, 3, (3, 55, 1), [3054, 2163, 2164, 1002]), none, none, some (.aload_n 0, 1, (0, 99999, 0), []), some (.getfield 10, 3, (1, 5, 0), [1182]), none, none, some (.getfield 283, 3, (1, 4, 12), [1063]), none, none, some (.ireturn, 1, (0, 99999, 0), [])]])
def mX5_cast : ab_D := (yX5_cast, cX5_cast, 4, some .int, 5, 2, false, [
  [some (.aload_n 0, 1, (0, 99999, 0), []), some (.getfield 10, 3, (1, 5, 0), [1182]), none, none, some (.iload_n 1, 1, (0, 99999, 0), []), some (.invokevirtual 161, 3, (3, 51, 1), [2134, 2135, 2136, 1002]), none, none, some (.ifCond .ne 9, 3, (0, 99999, 0), []), none, none, some (.aload_n 0, 1, (0, 99999, 0), []), some (.iconst 1, 1, (0, 99999, 0), []), some (.invokevirtual 66, 3, (3, 118, 1), [1220, 1222, 0, 1001]), none, none],
  [some (.ireturn, 1, (0, 99999, 0), []), some (.aload_n 0, 1, (0, 99999, 0), []), some (.aload_n 0, 1, (0, 99999, 0), []), some (.getfield 10, 3, (1, 5, 0), [1182]), none, none, some (.iload_n 1, 1, (0, 99999, 0), []), some (.iload_n 2, 1, (0, 99999, 0), []), some (.invokevirtual 217, 3, (3, 122, 3), [3132, 3134, 19, 1001]), none, none, some (.istore_n 3, 1, (0, 99999, 0), []), some (.iload_n 3, 1, (0, 99999, 0), []), some (.iconst (-1), 1, (0, 99999, 0), []), some (.if_icmp .ne 10, 3, (0, 99999, 0), []), none],
  [none, some (.aload_n 0, 1, (0, 99999, 0), []), some (.bipush 6, 2, (0, 99999, 0), []), none, some (.invokevirtual 66, 3, (3, 118, 1), [1220, 1222, 0, 1001]), none, none, some (.ireturn, 1, (0, 99999, 0), []), some (.aload_n 0, 1, (0, 99999, 0), []), some (.getfield 10, 3, (1, 5, 0), [1182]), none, none, some (.iload_n 1, 1, (0, 99999, 0), []), some (.iload_n 2, 1, (0, 99999, 0), []), some (.iload_n 3, 1, (0, 99999, 0), []), some (.invokevirtual 286, 3, (3, 71, 3), [3235, 3236, 3237, 1002])],
  [none, none, some (.iload_n 3, 1, (0, 99999, 0), []), some (.ireturn, 1, (0, 99999, 0), [])]])
def mX5_back : ab_D := (yX5_back, cX5_back, 3, some .int, 5, 1, false, [
  [some (.aload_n 0, 1, (0, 99999, 0), []), some (.getfield 10, 3, (1, 5, 0), [1182]), none, none, some (.iload_n 1, 1, (0, 99999, 0), []), some (.invokevirtual 107, 3, (3, 50, 1), [2056, 2057, 2058, 1002]), none, none, some (.ifCond .ne 9, 3, (0, 99999, 0), []), none, none, some (.aload_n 0, 1, (0, 99999, 0), []), some (.iconst 1, 1, (0, 99999, 0), []), some (.invokevirtual 66, 3, (3, 118, 1), [1220, 1222, 0, 1001]), none, none],
  [some (.ireturn, 1, (0, 99999, 0), []), some (.aload_n 0, 1, (0, 99999, 0), []), some (.getfield 10, 3, (1, 5, 0), [1182]), none, none, some (.getfield 180, 3, (1, 4, 3), [1040]), none, none, some (.iload_n 1, 1, (0, 99999, 0), []), some (.iaload, 1, (0, 99999, 0), []), some (.istore_n 2, 1, (0, 99999, 0), []), some (.iload_n 2, 1, (0, 99999, 0), []), some (.bipush 99, 2, (0, 99999, 0), []), none, some (.if_icmp .ne 10, 3, (0, 99999, 0), []), none],
  [none, some (.aload_n 0, 1, (0, 99999, 0), []), some (.bipush 6, 2, (0, 99999, 0), []), none, some (.invokevirtual 66, 3, (3, 118, 1), [1220, 1222, 0, 1001]), none, none, some (.ireturn, 1, (0, 99999, 0), []), some (.aload_n 0, 1, (0, 99999, 0), []), some (.getfield 10, 3, (1, 5, 0), [1182]), none, none, some (.getfield 180, 3, (1, 4, 3), [1040]), none, none, some (.iload_n 1, 1, (0, 99999, 0), [])],
  [some (.bipush 99, 2, (0, 99999, 0), []), none, some (.iastore, 1, (0, 99999, 0), []), some (.iload_n 2, 1, (0, 99999, 0), []), some (.ireturn, 1, (0, 99999, 0), [])]])
def mX5_days : ab_D := (yX5_days, cX5_days, 3, some .int, 5, 1, false, [
  [some (.aload_n 0, 1, (0, 99999, 0), []), some (.getfield 10, 3, (1, 5, 0), [1182]), none, none, some (.getfield 249, 3, (1, 4, 10), [1058]), none, none, some (.ifCond .ne 9, 3, (0, 99999, 0), []), none, none, some (.aload_n 0, 1, (0, 99999, 0), []), some (.iconst 5, 1, (0, 99999, 0), []), some (.invokevirtual 66, 3, (3, 118, 1), [1220, 1222, 0, 1001]), none, none, some (.ireturn, 1, (0, 99999, 0), [])],
  [some (.iload_n 1, 1, (0, 99999, 0), []), some (.iconst 1, 1, (0, 99999, 0), []), some (.bipush 40, 2, (0, 99999, 0), []), none, some (.invokestatic 135, 3, (4, 115, 3), [1224, 1225, 1001]), none, none, some (.ifCond .ne 10, 3, (0, 99999, 0), []), none, none, some (.aload_n 0, 1, (0, 99999, 0), []), some (.bipush 6, 2, (0, 99999, 0), []), none, some (.invokevirtual 66, 3, (3, 118, 1), [1220, 1222, 0, 1001]), none, none],
  [some (.ireturn, 1, (0, 99999, 0), []), some (.iconst 0, 1, (0, 99999, 0), []), some (.istore_n 2, 1, (0, 99999, 0), []), some (.iload_n 2, 1, (0, 99999, 0), []), some (.iload_n 1, 1, (0, 99999, 0), []), some (.if_icmp .ge 16, 3, (0, 99999, 0), []), none, none, some (.aload_n 0, 1, (0, 99999, 0), []), some (.getfield 10, 3, (1, 5, 0), [1182]), none, none, some (.invokevirtual 290, 3, (3, 73, 0), [4019, 4020, 4021, 1002]), none, none, some (.iinc 2 1, 3, (0, 99999, 0), [])],
  [none, none, some (.goto (-15), 3, (0, 99999, 0), []), none, none, some (.aload_n 0, 1, (0, 99999, 0), []), some (.getfield 10, 3, (1, 5, 0), [1182]), none, none, some (.invokevirtual 293, 3, (3, 65, 0), [4037, 4038, 4039, 1002]), none, none, some (.ireturn, 1, (0, 99999, 0), [])]])
def mX5_seed : ab_D := (yX5_seed, cX5_seed, 3, some .int, 5, 1, false, [
  [some (.aload_n 0, 1, (0, 99999, 0), []), some (.getfield 10, 3, (1, 5, 0), [1182]), none, none, some (.getfield 296, 3, (1, 4, 14), [1067]), none, none, some (.istore_n 2, 1, (0, 99999, 0), []), some (.aload_n 0, 1, (0, 99999, 0), []), some (.getfield 10, 3, (1, 5, 0), [1182]), none, none, some (.iload_n 1, 1, (0, 99999, 0), []), some (.putfield 296, 3, (1, 4, 14), [1067]), none, none],
  [some (.iload_n 2, 1, (0, 99999, 0), []), some (.ireturn, 1, (0, 99999, 0), [])]])
def mX5_act : ab_D := (yX5_act, cX5_act, 4, some .int, 5, 3, false, [
  [some (.aload_n 0, 1, (0, 99999, 0), []), some (.getfield 45, 3, (1, 5, 6), [1188]), none, none, some (.aload_n 0, 1, (0, 99999, 0), []), some (.getfield 10, 3, (1, 5, 0), [1182]), none, none, some (.iload_n 1, 1, (0, 99999, 0), []), some (.iload_n 2, 1, (0, 99999, 0), []), some (.iload_n 3, 1, (0, 99999, 0), []), some (.invokevirtual 299, 3, (3, 8, 4), [4049, 4050, 4051, 1005]), none, none, some (.ireturn, 1, (0, 99999, 0), [])]])
def mX5_trace : ab_D := (yX5_trace, cX5_trace, 2, some .int, 5, 1, false, [
  [some (.aload_n 0, 1, (0, 99999, 0), []), some (.getfield 45, 3, (1, 5, 6), [1188]), none, none, some (.iload_n 1, 1, (0, 99999, 0), []), some (.invokevirtual 303, 3, (3, 7, 1), [4075, 4076, 4077, 1005]), none, none, some (.ireturn, 1, (0, 99999, 0), [])]])
def mX5_image : ab_D := (yX5_image, cX5_image, 1, some .int, 5, 0, false, [
  [some (.aload_n 0, 1, (0, 99999, 0), []), some (.getfield 19, 3, (1, 5, 2), [1184]), none, none, some (.aload_n 0, 1, (0, 99999, 0), []), some (.getfield 10, 3, (1, 5, 0), [1182]), none, none, some (.invokevirtual 199, 3, (3, 55, 1), [3054, 2163, 2164, 1002]), none, none, some (.aload_n 0, 1, (0, 99999, 0), []), some (.iconst 1, 1, (0, 99999, 0), []), some (.putfield 53, 3, (1, 5, 8), [1190]), none, none],
  [some (.aload_n 0, 1, (0, 99999, 0), []), some (.getfield 19, 3, (1, 5, 2), [1184]), none, none, some (.getfield 306, 3, (1, 4, 9), [1055]), none, none, some (.ireturn, 1, (0, 99999, 0), [])]])
def mX5_restore : ab_D := (yX5_restore, cX5_restore, 3, some .int, 5, 0, false, [
  [some (.aload_n 0, 1, (0, 99999, 0), []), some (.getfield 53, 3, (1, 5, 8), [1190]), none, none, some (.ifCond .ne 10, 3, (0, 99999, 0), []), none, none, some (.aload_n 0, 1, (0, 99999, 0), []), some (.bipush 6, 2, (0, 99999, 0), []), none, some (.invokevirtual 66, 3, (3, 118, 1), [1220, 1222, 0, 1001]), none, none, some (.ireturn, 1, (0, 99999, 0), []), some (.aload_n 0, 1, (0, 99999, 0), []), some (.getfield 10, 3, (1, 5, 0), [1182])],
  [none, none, some (.aload_n 0, 1, (0, 99999, 0), []), some (.getfield 19, 3, (1, 5, 2), [1184]), none, none, some (.invokevirtual 199, 3, (3, 55, 1), [3054, 2163, 2164, 1002]), none, none, some (.iconst 0, 1, (0, 99999, 0), []), some (.istore_n 1, 1, (0, 99999, 0), []), some (.iload_n 1, 1, (0, 99999, 0), []), some (.bipush 8, 2, (0, 99999, 0), []), none, some (.if_icmp .ge 42, 3, (0, 99999, 0), []), none],
  [none, some (.aload_n 0, 1, (0, 99999, 0), []), some (.getfield 24, 3, (1, 5, 3), [1185]), none, none, some (.iload_n 1, 1, (0, 99999, 0), []), some (.aaload, 1, (0, 99999, 0), []), some (.astore_n 2, 1, (0, 99999, 0), []), some (.aload_n 2, 1, (0, 99999, 0), []), some (.invokevirtual 84, 3, (3, 33, 0), [2002, 2003, 2004, 1006]), none, none, some (.ifCond .eq 22, 3, (0, 99999, 0), []), none, none, some (.aload_n 0, 1, (0, 99999, 0), [])],
  [some (.getfield 10, 3, (1, 5, 0), [1182]), none, none, some (.aload_n 2, 1, (0, 99999, 0), []), some (.getfield 114, 3, (1, 3, 1), [1171]), none, none, some (.invokevirtual 107, 3, (3, 50, 1), [2056, 2057, 2058, 1002]), none, none, some (.ifCond .ne 8, 3, (0, 99999, 0), []), none, none, some (.aload_n 2, 1, (0, 99999, 0), []), some (.iconst (-1), 1, (0, 99999, 0), []), some (.invokevirtual 110, 3, (3, 31, 1), [2060, 2061, 2062, 1006])],
  [none, none, some (.iinc 1 1, 3, (0, 99999, 0), []), none, none, some (.goto (-42), 3, (0, 99999, 0), []), none, none, some (.aload_n 0, 1, (0, 99999, 0), []), some (.getfield 10, 3, (1, 5, 0), [1182]), none, none, some (.getfield 306, 3, (1, 4, 9), [1055]), none, none, some (.ireturn, 1, (0, 99999, 0), [])]])
def mX5_status : ab_D := (yX5_status, cX5_status, 2, some .int, 5, 1, false, [
  [some (.iload_n 1, 1, (0, 99999, 0), []), some (.tableswitch 145 0 9 #[55, 63, 71, 82, 97, 105, 113, 121, 129, 137], 55, (0, 99999, 0), []), none, none, none, none, none, none, none, none, none, none, none, none, none, none],
  [none, none, none, none, none, none, none, none, none, none, none, none, none, none, none, none],
  [none, none, none, none, none, none, none, none, none, none, none, none, none, none, none, none],
  [none, none, none, none, none, none, none, none, some (.aload_n 0, 1, (0, 99999, 0), []), some (.getfield 10, 3, (1, 5, 0), [1182]), none, none, some (.getfield 306, 3, (1, 4, 9), [1055]), none, none, some (.ireturn, 1, (0, 99999, 0), [])],
  [some (.aload_n 0, 1, (0, 99999, 0), []), some (.getfield 10, 3, (1, 5, 0), [1182]), none, none, some (.getfield 249, 3, (1, 4, 10), [1058]), none, none, some (.ireturn, 1, (0, 99999, 0), []), some (.aload_n 0, 1, (0, 99999, 0), []), some (.getfield 10, 3, (1, 5, 0), [1182]), none, none, some (.invokevirtual 226, 3, (3, 63, 0), [3154, 3095, 3096, 1002]), none, none, some (.invokestatic 240, 3, (4, 213, 1), [3158, 3159, 1015])],
  [none, none, some (.ireturn, 1, (0, 99999, 0), []), some (.aload_n 0, 1, (0, 99999, 0), []), some (.getfield 10, 3, (1, 5, 0), [1182]), none, none, some (.aload_n 0, 1, (0, 99999, 0), []), some (.getfield 10, 3, (1, 5, 0), [1182]), none, none, some (.invokevirtual 226, 3, (3, 63, 0), [3154, 3095, 3096, 1002]), none, none, some (.invokevirtual 276, 3, (3, 60, 1), [3223, 3224, 3225, 1002]), none],
  [none, some (.ireturn, 1, (0, 99999, 0), []), some (.aload_n 0, 1, (0, 99999, 0), []), some (.getfield 10, 3, (1, 5, 0), [1182]), none, none, some (.getfield 158, 3, (1, 4, 11), [1061]), none, none, some (.ireturn, 1, (0, 99999, 0), []), some (.aload_n 0, 1, (0, 99999, 0), []), some (.getfield 10, 3, (1, 5, 0), [1182]), none, none, some (.getfield 283, 3, (1, 4, 12), [1063]), none],
  [none, some (.ireturn, 1, (0, 99999, 0), []), some (.aload_n 0, 1, (0, 99999, 0), []), some (.getfield 10, 3, (1, 5, 0), [1182]), none, none, some (.getfield 309, 3, (1, 4, 13), [1065]), none, none, some (.ireturn, 1, (0, 99999, 0), []), some (.aload_n 0, 1, (0, 99999, 0), []), some (.getfield 10, 3, (1, 5, 0), [1182]), none, none, some (.invokevirtual 293, 3, (3, 65, 0), [4037, 4038, 4039, 1002]), none],
  [none, some (.ireturn, 1, (0, 99999, 0), []), some (.aload_n 0, 1, (0, 99999, 0), []), some (.getfield 10, 3, (1, 5, 0), [1182]), none, none, some (.getfield 296, 3, (1, 4, 14), [1067]), none, none, some (.ireturn, 1, (0, 99999, 0), []), some (.aload_n 0, 1, (0, 99999, 0), []), some (.getfield 45, 3, (1, 5, 6), [1188]), none, none, some (.getfield 312, 3, (1, 1, 1), [1149]), none],
  [none, some (.ireturn, 1, (0, 99999, 0), []), some (.iload_n 1, 1, (0, 99999, 0), []), some (.bipush 11, 2, (0, 99999, 0), []), none, some (.bipush 17, 2, (0, 99999, 0), []), none, some (.invokestatic 135, 3, (4, 115, 3), [1224, 1225, 1001]), none, none, some (.ifCond .eq 15, 3, (0, 99999, 0), []), none, none, some (.aload_n 0, 1, (0, 99999, 0), []), some (.getfield 49, 3, (1, 5, 7), [1189]), none],
  [none, some (.iload_n 1, 1, (0, 99999, 0), []), some (.bipush 10, 2, (0, 99999, 0), []), none, some (.isub, 1, (0, 99999, 0), []), some (.iaload, 1, (0, 99999, 0), []), some (.goto 4, 3, (0, 99999, 0), []), none, none, some (.iconst (-1), 1, (0, 99999, 0), []), some (.ireturn, 1, (0, 99999, 0), [])]])
def mX5_isFrom : ab_D := (yX5_isFrom, cX5_isFrom, 3, some .boolean, 5, 3, false, [
  [some (.iload_n 0, 1, (0, 99999, 0), []), some (.iload_n 1, 1, (0, 99999, 0), []), some (.if_icmp .lt 12, 3, (0, 99999, 0), []), none, none, some (.iload_n 0, 1, (0, 99999, 0), []), some (.iload_n 2, 1, (0, 99999, 0), []), some (.if_icmp .gt 7, 3, (0, 99999, 0), []), none, none, some (.iconst 1, 1, (0, 99999, 0), []), some (.goto 4, 3, (0, 99999, 0), []), none, none, some (.iconst 0, 1, (0, 99999, 0), []), some (.ireturn, 1, (0, 99999, 0), [])]])
def mX5_isOneOfTwo : ab_D := (yX5_isOneOfTwo, cX5_isOneOfTwo, 1, some .boolean, 5, 1, false, [
  [some (.iload_n 0, 1, (0, 99999, 0), []), some (.ifCond .eq 8, 3, (0, 99999, 0), []), none, none, some (.iload_n 0, 1, (0, 99999, 0), []), some (.iconst 1, 1, (0, 99999, 0), []), some (.if_icmp .ne 7, 3, (0, 99999, 0), []), none, none, some (.iconst 1, 1, (0, 99999, 0), []), some (.goto 4, 3, (0, 99999, 0), []), none, none, some (.iconst 0, 1, (0, 99999, 0), []), some (.ireturn, 1, (0, 99999, 0), [])]])
def mX5_isShelf : ab_D := (yX5_isShelf, cX5_isShelf, 1, some .boolean, 5, 1, false, [
  [some (.iload_n 0, 1, (0, 99999, 0), []), some (.ifCond .lt 13, 3, (0, 99999, 0), []), none, none, some (.iload_n 0, 1, (0, 99999, 0), []), some (.bipush 8, 2, (0, 99999, 0), []), none, some (.if_icmp .ge 7, 3, (0, 99999, 0), []), none, none, some (.iconst 1, 1, (0, 99999, 0), []), some (.goto 4, 3, (0, 99999, 0), []), none, none, some (.iconst 0, 1, (0, 99999, 0), []), some (.ireturn, 1, (0, 99999, 0), [])]])
def mX5_refuse : ab_D := (yX5_refuse, cX5_refuse, 2, some .int, 5, 1, false, [
  [some (.iload_n 1, 1, (0, 99999, 0), []), some (.iconst 1, 1, (0, 99999, 0), []), some (.bipush 7, 2, (0, 99999, 0), []), none, some (.invokestatic 135, 3, (4, 115, 3), [1224, 1225, 1001]), none, none, some (.ifCond .eq 13, 3, (0, 99999, 0), []), none, none, some (.aload_n 0, 1, (0, 99999, 0), []), some (.getfield 49, 3, (1, 5, 7), [1189]), none, none, some (.iload_n 1, 1, (0, 99999, 0), []), some (.dup2, 1, (0, 99999, 0), [])],
  [some (.iaload, 1, (0, 99999, 0), []), some (.iconst 1, 1, (0, 99999, 0), []), some (.iadd, 1, (0, 99999, 0), []), some (.iastore, 1, (0, 99999, 0), []), some (.iload_n 1, 1, (0, 99999, 0), []), some (.ineg, 1, (0, 99999, 0), []), some (.ireturn, 1, (0, 99999, 0), [])]])
def mX5_whyNoRow : ab_D := (yX5_whyNoRow, cX5_whyNoRow, 2, some .int, 5, 1, false, [
  [some (.iload_n 1, 1, (0, 99999, 0), []), some (.invokestatic 62, 3, (4, 117, 1), [1217, 1218, 1001]), none, none, some (.ifCond .ne 5, 3, (0, 99999, 0), []), none, none, some (.iconst 1, 1, (0, 99999, 0), []), some (.ireturn, 1, (0, 99999, 0), []), some (.aload_n 0, 1, (0, 99999, 0), []), some (.getfield 24, 3, (1, 5, 3), [1185]), none, none, some (.iload_n 1, 1, (0, 99999, 0), []), some (.aaload, 1, (0, 99999, 0), []), some (.invokevirtual 84, 3, (3, 33, 0), [2002, 2003, 2004, 1006])],
  [none, none, some (.ifCond .eq 5, 3, (0, 99999, 0), []), none, none, some (.iconst 2, 1, (0, 99999, 0), []), some (.ireturn, 1, (0, 99999, 0), []), some (.aload_n 0, 1, (0, 99999, 0), []), some (.getfield 24, 3, (1, 5, 3), [1185]), none, none, some (.iload_n 1, 1, (0, 99999, 0), []), some (.aaload, 1, (0, 99999, 0), []), some (.invokevirtual 92, 3, (3, 32, 0), [2006, 2007, 2008, 1006]), none, none],
  [some (.ifCond .eq 7, 3, (0, 99999, 0), []), none, none, some (.iconst 3, 1, (0, 99999, 0), []), some (.goto 4, 3, (0, 99999, 0), []), none, none, some (.iconst 0, 1, (0, 99999, 0), []), some (.ireturn, 1, (0, 99999, 0), [])]])
def mX5_whyNoTwos : ab_D := (yX5_whyNoTwos, cX5_whyNoTwos, 6, some .int, 5, 4, false, [
  [some (.aload_n 0, 1, (0, 99999, 0), []), some (.iload_n 1, 1, (0, 99999, 0), []), some (.invokevirtual 74, 3, (3, 119, 1), [1238, 2000, 1, 1001]), none, none, some (.istore 5, 2, (0, 99999, 0), []), none, some (.iload 5, 2, (0, 99999, 0), []), none, some (.ifCond .eq 6, 3, (0, 99999, 0), []), none, none, some (.iload 5, 2, (0, 99999, 0), []), none, some (.ireturn, 1, (0, 99999, 0), []), some (.iload_n 2, 1, (0, 99999, 0), [])],
  [some (.ifCond .ge 5, 3, (0, 99999, 0), []), none, none, some (.iconst 4, 1, (0, 99999, 0), []), some (.ireturn, 1, (0, 99999, 0), []), some (.iload 4, 2, (0, 99999, 0), []), none, some (.ifCond .ne 18, 3, (0, 99999, 0), []), none, none, some (.iload_n 2, 1, (0, 99999, 0), []), some (.aload_n 0, 1, (0, 99999, 0), []), some (.getfield 24, 3, (1, 5, 3), [1185]), none, none, some (.iload_n 1, 1, (0, 99999, 0), [])],
  [some (.aaload, 1, (0, 99999, 0), []), some (.getfield 315, 3, (1, 3, 2), [1173]), none, none, some (.iconst 2, 1, (0, 99999, 0), []), some (.idiv, 1, (0, 99999, 0), []), some (.if_icmp .le 5, 3, (0, 99999, 0), []), none, none, some (.iconst 5, 1, (0, 99999, 0), []), some (.ireturn, 1, (0, 99999, 0), []), some (.iload_n 2, 1, (0, 99999, 0), []), some (.iload_n 3, 1, (0, 99999, 0), []), some (.if_icmp .le 8, 3, (0, 99999, 0), []), none, none],
  [some (.bipush 6, 2, (0, 99999, 0), []), none, some (.goto 4, 3, (0, 99999, 0), []), none, none, some (.iconst 0, 1, (0, 99999, 0), []), some (.ireturn, 1, (0, 99999, 0), [])]])
def mX5_tellOne : ab_D := (yX5_tellOne, cX5_tellOne, 6, some .int, 5, 4, false, [
  [some (.iload_n 3, 1, (0, 99999, 0), []), some (.iconst 0, 1, (0, 99999, 0), []), some (.iload 4, 2, (0, 99999, 0), []), none, some (.invokestatic 135, 3, (4, 115, 3), [1224, 1225, 1001]), none, none, some (.ifCond .ne 10, 3, (0, 99999, 0), []), none, none, some (.aload_n 0, 1, (0, 99999, 0), []), some (.bipush 6, 2, (0, 99999, 0), []), none, some (.invokevirtual 66, 3, (3, 118, 1), [1220, 1222, 0, 1001]), none, none],
  [some (.ireturn, 1, (0, 99999, 0), []), some (.aload_n 1, 1, (0, 99999, 0), []), some (.iload_n 2, 1, (0, 99999, 0), []), some (.iaload, 1, (0, 99999, 0), []), some (.istore 5, 2, (0, 99999, 0), []), none, some (.aload_n 1, 1, (0, 99999, 0), []), some (.iload_n 2, 1, (0, 99999, 0), []), some (.iload_n 3, 1, (0, 99999, 0), []), some (.iastore, 1, (0, 99999, 0), []), some (.iload 5, 2, (0, 99999, 0), []), none, some (.ireturn, 1, (0, 99999, 0), [])]])
def mX5_throwBy : ab_D := (yX5_throwBy, cX5_throwBy, 5, some .int, 5, 3, false, [
  [some (.aload_n 1, 1, (0, 99999, 0), []), some (.iload_n 2, 1, (0, 99999, 0), []), some (.invokevirtual 161, 3, (3, 51, 1), [2134, 2135, 2136, 1002]), none, none, some (.ifCond .eq 13, 3, (0, 99999, 0), []), none, none, some (.iload_n 3, 1, (0, 99999, 0), []), some (.aload_n 1, 1, (0, 99999, 0), []), some (.getfield 164, 3, (1, 4, 4), [1042]), none, none, some (.iload_n 2, 1, (0, 99999, 0), []), some (.iaload, 1, (0, 99999, 0), []), some (.if_icmp .le 5, 3, (0, 99999, 0), [])],
  [none, none, some (.iconst (-1), 1, (0, 99999, 0), []), some (.ireturn, 1, (0, 99999, 0), []), some (.aload_n 1, 1, (0, 99999, 0), []), some (.iload_n 2, 1, (0, 99999, 0), []), some (.aload_n 1, 1, (0, 99999, 0), []), some (.getfield 174, 3, (1, 4, 6), [1046]), none, none, some (.iload_n 2, 1, (0, 99999, 0), []), some (.iaload, 1, (0, 99999, 0), []), some (.invokevirtual 203, 3, (3, 66, 2), [3064, 3065, 3066, 1002]), none, none, some (.istore 4, 2, (0, 99999, 0), [])],
  [none, some (.iload_n 3, 1, (0, 99999, 0), []), some (.iload 4, 2, (0, 99999, 0), []), none, some (.if_icmp .ge 7, 3, (0, 99999, 0), []), none, none, some (.iconst (-1), 1, (0, 99999, 0), []), some (.goto 19, 3, (0, 99999, 0), []), none, none, some (.aload_n 0, 1, (0, 99999, 0), []), some (.getfield 31, 3, (1, 5, 4), [1186]), none, none, some (.aload_n 1, 1, (0, 99999, 0), [])],
  [some (.aload_n 1, 1, (0, 99999, 0), []), some (.getfield 158, 3, (1, 4, 11), [1061]), none, none, some (.iload_n 3, 1, (0, 99999, 0), []), some (.iload 4, 2, (0, 99999, 0), []), none, some (.isub, 1, (0, 99999, 0), []), some (.invokevirtual 213, 3, (3, 1, 3), [3086, 3087, 3088, 1003]), none, none, some (.ireturn, 1, (0, 99999, 0), [])]])
def mX5_draftDay : ab_D := (yX5_draftDay, cX5_draftDay, 6, some .int, 5, 2, false, [
  [some (.aload_n 0, 1, (0, 99999, 0), []), some (.getfield 16, 3, (1, 5, 1), [1183]), none, none, some (.aload_n 0, 1, (0, 99999, 0), []), some (.getfield 10, 3, (1, 5, 0), [1182]), none, none, some (.invokevirtual 199, 3, (3, 55, 1), [3054, 2163, 2164, 1002]), none, none, some (.iconst 0, 1, (0, 99999, 0), []), some (.istore_n 3, 1, (0, 99999, 0), []), some (.iload_n 3, 1, (0, 99999, 0), []), some (.iload_n 2, 1, (0, 99999, 0), []), some (.if_icmp .ge 57, 3, (0, 99999, 0), [])],
  [none, none, some (.aload_n 1, 1, (0, 99999, 0), []), some (.iload_n 3, 1, (0, 99999, 0), []), some (.invokevirtual 256, 3, (3, 43, 1), [3184, 3185, 3186, 1006]), none, none, some (.istore 4, 2, (0, 99999, 0), []), none, some (.aload_n 0, 1, (0, 99999, 0), []), some (.aload_n 0, 1, (0, 99999, 0), []), some (.getfield 16, 3, (1, 5, 1), [1183]), none, none, some (.iload 4, 2, (0, 99999, 0), []), none],
  [some (.aload_n 1, 1, (0, 99999, 0), []), some (.iload_n 3, 1, (0, 99999, 0), []), some (.invokevirtual 259, 3, (3, 44, 1), [3188, 3189, 3190, 1006]), none, none, some (.invokevirtual 217, 3, (3, 122, 3), [3132, 3134, 19, 1001]), none, none, some (.istore 5, 2, (0, 99999, 0), []), none, some (.iload 5, 2, (0, 99999, 0), []), none, some (.iconst (-1), 1, (0, 99999, 0), []), some (.if_icmp .ne 5, 3, (0, 99999, 0), []), none, none],
  [some (.iload_n 3, 1, (0, 99999, 0), []), some (.ireturn, 1, (0, 99999, 0), []), some (.aload_n 0, 1, (0, 99999, 0), []), some (.getfield 16, 3, (1, 5, 1), [1183]), none, none, some (.iload 4, 2, (0, 99999, 0), []), none, some (.aload_n 1, 1, (0, 99999, 0), []), some (.iload_n 3, 1, (0, 99999, 0), []), some (.invokevirtual 259, 3, (3, 44, 1), [3188, 3189, 3190, 1006]), none, none, some (.iload 5, 2, (0, 99999, 0), []), none, some (.invokevirtual 286, 3, (3, 71, 3), [3235, 3236, 3237, 1002])],
  [none, none, some (.iinc 3 1, 3, (0, 99999, 0), []), none, none, some (.goto (-56), 3, (0, 99999, 0), []), none, none, some (.iconst (-1), 1, (0, 99999, 0), []), some (.ireturn, 1, (0, 99999, 0), [])]])
def mX5_areAllThere : ab_D := (yX5_areAllThere, cX5_areAllThere, 4, some .boolean, 5, 2, false, [
  [some (.iconst 0, 1, (0, 99999, 0), []), some (.istore_n 3, 1, (0, 99999, 0), []), some (.iload_n 3, 1, (0, 99999, 0), []), some (.iload_n 2, 1, (0, 99999, 0), []), some (.if_icmp .ge 26, 3, (0, 99999, 0), []), none, none, some (.aload_n 0, 1, (0, 99999, 0), []), some (.getfield 10, 3, (1, 5, 0), [1182]), none, none, some (.aload_n 1, 1, (0, 99999, 0), []), some (.iload_n 3, 1, (0, 99999, 0), []), some (.invokevirtual 256, 3, (3, 43, 1), [3184, 3185, 3186, 1006]), none, none],
  [some (.invokevirtual 161, 3, (3, 51, 1), [2134, 2135, 2136, 1002]), none, none, some (.ifCond .ne 5, 3, (0, 99999, 0), []), none, none, some (.iconst 0, 1, (0, 99999, 0), []), some (.ireturn, 1, (0, 99999, 0), []), some (.iinc 3 1, 3, (0, 99999, 0), []), none, none, some (.goto (-25), 3, (0, 99999, 0), []), none, none, some (.iconst 1, 1, (0, 99999, 0), []), some (.ireturn, 1, (0, 99999, 0), [])]])
def mX5_isCost : ab_D := (yX5_isCost, cX5_isCost, 6, some .boolean, 5, 4, false, [
  [some (.iconst 0, 1, (0, 99999, 0), []), some (.istore 5, 2, (0, 99999, 0), []), none, some (.iload 5, 2, (0, 99999, 0), []), none, some (.iload_n 2, 1, (0, 99999, 0), []), some (.if_icmp .ge 36, 3, (0, 99999, 0), []), none, none, some (.aload_n 0, 1, (0, 99999, 0), []), some (.getfield 10, 3, (1, 5, 0), [1182]), none, none, some (.aload_n 1, 1, (0, 99999, 0), []), some (.iload 5, 2, (0, 99999, 0), []), none],
  [some (.invokevirtual 256, 3, (3, 43, 1), [3184, 3185, 3186, 1006]), none, none, some (.iload_n 3, 1, (0, 99999, 0), []), some (.iload 4, 2, (0, 99999, 0), []), none, some (.invokevirtual 318, 3, (3, 67, 3), [3204, 3069, 3070, 1002]), none, none, some (.aload_n 1, 1, (0, 99999, 0), []), some (.iload 5, 2, (0, 99999, 0), []), none, some (.invokevirtual 259, 3, (3, 44, 1), [3188, 3189, 3190, 1006]), none, none, some (.if_icmp .eq 5, 3, (0, 99999, 0), [])],
  [none, none, some (.iconst 0, 1, (0, 99999, 0), []), some (.ireturn, 1, (0, 99999, 0), []), some (.iinc 5 1, 3, (0, 99999, 0), []), none, none, some (.goto (-36), 3, (0, 99999, 0), []), none, none, some (.iconst 1, 1, (0, 99999, 0), []), some (.ireturn, 1, (0, 99999, 0), [])]])
def mX5_dearest : ab_D := (yX5_dearest, cX5_dearest, 6, some .int, 5, 0, false, [
  [some (.iconst (-1), 1, (0, 99999, 0), []), some (.istore_n 1, 1, (0, 99999, 0), []), some (.bipush 100, 2, (0, 99999, 0), []), none, some (.istore_n 2, 1, (0, 99999, 0), []), some (.aload_n 0, 1, (0, 99999, 0), []), some (.getfield 10, 3, (1, 5, 0), [1182]), none, none, some (.invokevirtual 226, 3, (3, 63, 0), [3154, 3095, 3096, 1002]), none, none, some (.istore_n 3, 1, (0, 99999, 0), []), some (.iconst 0, 1, (0, 99999, 0), []), some (.istore 4, 2, (0, 99999, 0), []), none],
  [some (.iload 4, 2, (0, 99999, 0), []), none, some (.aload_n 0, 1, (0, 99999, 0), []), some (.getfield 10, 3, (1, 5, 0), [1182]), none, none, some (.getfield 306, 3, (1, 4, 9), [1055]), none, none, some (.if_icmp .ge 54, 3, (0, 99999, 0), []), none, none, some (.iload_n 3, 1, (0, 99999, 0), []), some (.iload 4, 2, (0, 99999, 0), []), none, some (.invokestatic 321, 3, (4, 49, 2), [3213, 3105, 1002])],
  [none, none, some (.ifCond .ne 6, 3, (0, 99999, 0), []), none, none, some (.goto 36, 3, (0, 99999, 0), []), none, none, some (.aload_n 0, 1, (0, 99999, 0), []), some (.getfield 31, 3, (1, 5, 4), [1186]), none, none, some (.aload_n 0, 1, (0, 99999, 0), []), some (.getfield 10, 3, (1, 5, 0), [1182]), none, none],
  [some (.iload_n 3, 1, (0, 99999, 0), []), some (.iconst 1, 1, (0, 99999, 0), []), some (.iload 4, 2, (0, 99999, 0), []), none, some (.ishl, 1, (0, 99999, 0), []), some (.iconst (-1), 1, (0, 99999, 0), []), some (.ixor, 1, (0, 99999, 0), []), some (.iand, 1, (0, 99999, 0), []), some (.invokevirtual 245, 3, (3, 5, 2), [3168, 3169, 3170, 1003]), none, none, some (.istore 5, 2, (0, 99999, 0), []), none, some (.iload 5, 2, (0, 99999, 0), []), none, some (.iload_n 2, 1, (0, 99999, 0), [])],
  [some (.if_icmp .ge 9, 3, (0, 99999, 0), []), none, none, some (.iload 5, 2, (0, 99999, 0), []), none, some (.istore_n 2, 1, (0, 99999, 0), []), some (.iload 4, 2, (0, 99999, 0), []), none, some (.istore_n 1, 1, (0, 99999, 0), []), some (.iinc 4 1, 3, (0, 99999, 0), []), none, none, some (.goto (-60), 3, (0, 99999, 0), []), none, none, some (.iload_n 1, 1, (0, 99999, 0), [])],
  [some (.ireturn, 1, (0, 99999, 0), [])]])
def mX5_crowd : ab_D := (yX5_crowd, cX5_crowd, 5, some .int, 5, 0, false, [
  [some (.iconst (-1), 1, (0, 99999, 0), []), some (.istore_n 1, 1, (0, 99999, 0), []), some (.iconst 0, 1, (0, 99999, 0), []), some (.istore_n 2, 1, (0, 99999, 0), []), some (.iconst 0, 1, (0, 99999, 0), []), some (.istore_n 3, 1, (0, 99999, 0), []), some (.iload_n 3, 1, (0, 99999, 0), []), some (.bipush 8, 2, (0, 99999, 0), []), none, some (.if_icmp .ge 30, 3, (0, 99999, 0), []), none, none, some (.aload_n 0, 1, (0, 99999, 0), []), some (.getfield 10, 3, (1, 5, 0), [1182]), none, none],
  [some (.iload_n 3, 1, (0, 99999, 0), []), some (.invokevirtual 324, 3, (3, 64, 1), [3218, 3073, 3074, 1002]), none, none, some (.istore 4, 2, (0, 99999, 0), []), none, some (.iload 4, 2, (0, 99999, 0), []), none, some (.iload_n 2, 1, (0, 99999, 0), []), some (.if_icmp .le 8, 3, (0, 99999, 0), []), none, none, some (.iload 4, 2, (0, 99999, 0), []), none, some (.istore_n 2, 1, (0, 99999, 0), []), some (.iload_n 3, 1, (0, 99999, 0), [])],
  [some (.istore_n 1, 1, (0, 99999, 0), []), some (.iinc 3 1, 3, (0, 99999, 0), []), none, none, some (.goto (-30), 3, (0, 99999, 0), []), none, none, some (.iload_n 1, 1, (0, 99999, 0), []), some (.ireturn, 1, (0, 99999, 0), [])]])
def mX6_init : ab_D := (yX6_init, cX6_init, 1, none, 6, 0, true, [
  [some (.aload_n 0, 1, (0, 99999, 0), []), some (.invokespecial 1, 3, (6, 99999, 0), [4096, 1022, 1023]), none, none, some (.aload_n 0, 1, (0, 99999, 0), []), some (.iconst 1, 1, (0, 99999, 0), []), some (.putfield 7, 3, (1, 6, 5), [4102]), none, none, some (.aload_n 0, 1, (0, 99999, 0), []), some (.iconst (-1), 1, (0, 99999, 0), []), some (.putfield 13, 3, (1, 6, 6), [4103]), none, none, some (.aload_n 0, 1, (0, 99999, 0), []), some (.bipush 8, 2, (0, 99999, 0), [])],
  [none, some (.newarray .int, 2, (0, 99999, 0), [1099]), none, some (.putfield 16, 3, (1, 6, 7), [4104]), none, none, some (.aload_n 0, 1, (0, 99999, 0), []), some (.bipush 9, 2, (0, 99999, 0), []), none, some (.newarray .int, 2, (0, 99999, 0), [1099]), none, some (.putfield 20, 3, (1, 6, 8), [4105]), none, none, some (.aload_n 0, 1, (0, 99999, 0), []), some (.bipush 9, 2, (0, 99999, 0), [])],
  [none, some (.newarray .int, 2, (0, 99999, 0), [1099]), none, some (.putfield 23, 3, (1, 6, 9), [4106]), none, none, some (.aload_n 0, 1, (0, 99999, 0), []), some (.bipush 9, 2, (0, 99999, 0), []), none, some (.newarray .int, 2, (0, 99999, 0), [1099]), none, some (.putfield 26, 3, (1, 6, 10), [4107]), none, none, some (.aload_n 0, 1, (0, 99999, 0), []), some (.bipush 9, 2, (0, 99999, 0), [])],
  [none, some (.newarray .int, 2, (0, 99999, 0), [1099]), none, some (.putfield 29, 3, (1, 6, 11), [4108]), none, none, some (.aload_n 0, 1, (0, 99999, 0), []), some (.bipush 6, 2, (0, 99999, 0), []), none, some (.newarray .int, 2, (0, 99999, 0), [1099]), none, some (.putfield 32, 3, (1, 6, 12), [4109]), none, none, some (.aload_n 0, 1, (0, 99999, 0), []), some (.bipush 6, 2, (0, 99999, 0), [])],
  [none, some (.newarray .int, 2, (0, 99999, 0), [1099]), none, some (.putfield 35, 3, (1, 6, 13), [4110]), none, none, some (.aload_n 0, 1, (0, 99999, 0), []), some (.bipush 6, 2, (0, 99999, 0), []), none, some (.newarray .int, 2, (0, 99999, 0), [1099]), none, some (.putfield 38, 3, (1, 6, 14), [4111]), none, none, some (.aload_n 0, 1, (0, 99999, 0), []), some (.bipush 6, 2, (0, 99999, 0), [])],
  [none, some (.newarray .int, 2, (0, 99999, 0), [1099]), none, some (.putfield 41, 3, (1, 6, 15), [4112]), none, none, some (.aload_n 0, 1, (0, 99999, 0), []), some (.bipush 8, 2, (0, 99999, 0), []), none, some (.newarray .int, 2, (0, 99999, 0), [1099]), none, some (.dup, 1, (0, 99999, 0), []), some (.iconst 0, 1, (0, 99999, 0), []), some (.iconst 5, 1, (0, 99999, 0), []), some (.iastore, 1, (0, 99999, 0), []), some (.dup, 1, (0, 99999, 0), [])],
  [some (.iconst 1, 1, (0, 99999, 0), []), some (.bipush 6, 2, (0, 99999, 0), []), none, some (.iastore, 1, (0, 99999, 0), []), some (.dup, 1, (0, 99999, 0), []), some (.iconst 2, 1, (0, 99999, 0), []), some (.bipush 7, 2, (0, 99999, 0), []), none, some (.iastore, 1, (0, 99999, 0), []), some (.dup, 1, (0, 99999, 0), []), some (.iconst 3, 1, (0, 99999, 0), []), some (.bipush 8, 2, (0, 99999, 0), []), none, some (.iastore, 1, (0, 99999, 0), []), some (.dup, 1, (0, 99999, 0), []), some (.iconst 4, 1, (0, 99999, 0), [])],
  [some (.bipush 9, 2, (0, 99999, 0), []), none, some (.iastore, 1, (0, 99999, 0), []), some (.dup, 1, (0, 99999, 0), []), some (.iconst 5, 1, (0, 99999, 0), []), some (.bipush 10, 2, (0, 99999, 0), []), none, some (.iastore, 1, (0, 99999, 0), []), some (.dup, 1, (0, 99999, 0), []), some (.bipush 6, 2, (0, 99999, 0), []), none, some (.bipush 11, 2, (0, 99999, 0), []), none, some (.iastore, 1, (0, 99999, 0), []), some (.dup, 1, (0, 99999, 0), []), some (.bipush 7, 2, (0, 99999, 0), [])],
  [none, some (.bipush 12, 2, (0, 99999, 0), []), none, some (.iastore, 1, (0, 99999, 0), []), some (.putfield 44, 3, (1, 6, 16), [4113]), none, none, some (.aload_n 0, 1, (0, 99999, 0), []), some (.bipush 8, 2, (0, 99999, 0), []), none, some (.newarray .int, 2, (0, 99999, 0), [1099]), none, some (.putfield 47, 3, (1, 6, 17), [4114]), none, none, some (.aload_n 0, 1, (0, 99999, 0), [])],
  [some (.bipush 8, 2, (0, 99999, 0), []), none, some (.newarray .int, 2, (0, 99999, 0), [1099]), none, some (.putfield 50, 3, (1, 6, 18), [4115]), none, none, some (.aload_n 0, 1, (0, 99999, 0), []), some (.bipush 8, 2, (0, 99999, 0), []), none, some (.newarray .int, 2, (0, 99999, 0), [1099]), none, some (.putfield 53, 3, (1, 6, 19), [4116]), none, none, some (.aload_n 0, 1, (0, 99999, 0), [])],
  [some (.bipush 8, 2, (0, 99999, 0), []), none, some (.newarray .int, 2, (0, 99999, 0), [1099]), none, some (.putfield 56, 3, (1, 6, 20), [4117]), none, none, some (.aload_n 0, 1, (0, 99999, 0), []), some (.sipush 1280, 3, (0, 99999, 0), []), none, none, some (.newarray .long, 2, (0, 99999, 0), [1181]), none, some (.putfield 59, 3, (1, 6, 21), [4118]), none, none],
  [some (.aload_n 0, 1, (0, 99999, 0), []), some (.sipush 160, 3, (0, 99999, 0), []), none, none, some (.newarray .long, 2, (0, 99999, 0), [1181]), none, some (.putfield 63, 3, (1, 6, 22), [4119]), none, none, some (.aload_n 0, 1, (0, 99999, 0), []), some (.bipush 44, 2, (0, 99999, 0), []), none, some (.newarray .int, 2, (0, 99999, 0), [1099]), none, some (.dup, 1, (0, 99999, 0), []), some (.iconst 0, 1, (0, 99999, 0), [])],
  [some (.bipush 112, 2, (0, 99999, 0), []), none, some (.iastore, 1, (0, 99999, 0), []), some (.dup, 1, (0, 99999, 0), []), some (.iconst 1, 1, (0, 99999, 0), []), some (.bipush 105, 2, (0, 99999, 0), []), none, some (.iastore, 1, (0, 99999, 0), []), some (.dup, 1, (0, 99999, 0), []), some (.iconst 2, 1, (0, 99999, 0), []), some (.bipush 101, 2, (0, 99999, 0), []), none, some (.iastore, 1, (0, 99999, 0), []), some (.dup, 1, (0, 99999, 0), []), some (.iconst 3, 1, (0, 99999, 0), []), some (.bipush 99, 2, (0, 99999, 0), [])],
  [none, some (.iastore, 1, (0, 99999, 0), []), some (.dup, 1, (0, 99999, 0), []), some (.iconst 4, 1, (0, 99999, 0), []), some (.bipush 101, 2, (0, 99999, 0), []), none, some (.iastore, 1, (0, 99999, 0), []), some (.dup, 1, (0, 99999, 0), []), some (.iconst 5, 1, (0, 99999, 0), []), some (.bipush 32, 2, (0, 99999, 0), []), none, some (.iastore, 1, (0, 99999, 0), []), some (.dup, 1, (0, 99999, 0), []), some (.bipush 6, 2, (0, 99999, 0), []), none, some (.iconst 0, 1, (0, 99999, 0), [])],
  [some (.iastore, 1, (0, 99999, 0), []), some (.dup, 1, (0, 99999, 0), []), some (.bipush 7, 2, (0, 99999, 0), []), none, some (.bipush 112, 2, (0, 99999, 0), []), none, some (.iastore, 1, (0, 99999, 0), []), some (.dup, 1, (0, 99999, 0), []), some (.bipush 8, 2, (0, 99999, 0), []), none, some (.bipush 101, 2, (0, 99999, 0), []), none, some (.iastore, 1, (0, 99999, 0), []), some (.dup, 1, (0, 99999, 0), []), some (.bipush 9, 2, (0, 99999, 0), []), none],
  [some (.bipush 114, 2, (0, 99999, 0), []), none, some (.iastore, 1, (0, 99999, 0), []), some (.dup, 1, (0, 99999, 0), []), some (.bipush 10, 2, (0, 99999, 0), []), none, some (.bipush 115, 2, (0, 99999, 0), []), none, some (.iastore, 1, (0, 99999, 0), []), some (.dup, 1, (0, 99999, 0), []), some (.bipush 11, 2, (0, 99999, 0), []), none, some (.bipush 111, 2, (0, 99999, 0), []), none, some (.iastore, 1, (0, 99999, 0), []), some (.dup, 1, (0, 99999, 0), [])],
  [some (.bipush 12, 2, (0, 99999, 0), []), none, some (.bipush 110, 2, (0, 99999, 0), []), none, some (.iastore, 1, (0, 99999, 0), []), some (.dup, 1, (0, 99999, 0), []), some (.bipush 13, 2, (0, 99999, 0), []), none, some (.bipush 32, 2, (0, 99999, 0), []), none, some (.iastore, 1, (0, 99999, 0), []), some (.dup, 1, (0, 99999, 0), []), some (.bipush 14, 2, (0, 99999, 0), []), none, some (.iconst 0, 1, (0, 99999, 0), []), some (.iastore, 1, (0, 99999, 0), [])],
  [some (.dup, 1, (0, 99999, 0), []), some (.bipush 15, 2, (0, 99999, 0), []), none, some (.bipush 99, 2, (0, 99999, 0), []), none, some (.iastore, 1, (0, 99999, 0), []), some (.dup, 1, (0, 99999, 0), []), some (.bipush 16, 2, (0, 99999, 0), []), none, some (.bipush 111, 2, (0, 99999, 0), []), none, some (.iastore, 1, (0, 99999, 0), []), some (.dup, 1, (0, 99999, 0), []), some (.bipush 17, 2, (0, 99999, 0), []), none, some (.bipush 115, 2, (0, 99999, 0), [])],
  [none, some (.iastore, 1, (0, 99999, 0), []), some (.dup, 1, (0, 99999, 0), []), some (.bipush 18, 2, (0, 99999, 0), []), none, some (.bipush 116, 2, (0, 99999, 0), []), none, some (.iastore, 1, (0, 99999, 0), []), some (.dup, 1, (0, 99999, 0), []), some (.bipush 19, 2, (0, 99999, 0), []), none, some (.bipush 32, 2, (0, 99999, 0), []), none, some (.iastore, 1, (0, 99999, 0), []), some (.dup, 1, (0, 99999, 0), []), some (.bipush 20, 2, (0, 99999, 0), [])],
  [none, some (.iconst 0, 1, (0, 99999, 0), []), some (.iastore, 1, (0, 99999, 0), []), some (.dup, 1, (0, 99999, 0), []), some (.bipush 21, 2, (0, 99999, 0), []), none, some (.bipush 104, 2, (0, 99999, 0), []), none, some (.iastore, 1, (0, 99999, 0), []), some (.dup, 1, (0, 99999, 0), []), some (.bipush 22, 2, (0, 99999, 0), []), none, some (.bipush 97, 2, (0, 99999, 0), []), none, some (.iastore, 1, (0, 99999, 0), []), some (.dup, 1, (0, 99999, 0), [])],
  [some (.bipush 23, 2, (0, 99999, 0), []), none, some (.bipush 115, 2, (0, 99999, 0), []), none, some (.iastore, 1, (0, 99999, 0), []), some (.dup, 1, (0, 99999, 0), []), some (.bipush 24, 2, (0, 99999, 0), []), none, some (.bipush 32, 2, (0, 99999, 0), []), none, some (.iastore, 1, (0, 99999, 0), []), some (.dup, 1, (0, 99999, 0), []), some (.bipush 25, 2, (0, 99999, 0), []), none, some (.iconst 0, 1, (0, 99999, 0), []), some (.iastore, 1, (0, 99999, 0), [])],
  [some (.dup, 1, (0, 99999, 0), []), some (.bipush 26, 2, (0, 99999, 0), []), none, some (.bipush 98, 2, (0, 99999, 0), []), none, some (.iastore, 1, (0, 99999, 0), []), some (.dup, 1, (0, 99999, 0), []), some (.bipush 27, 2, (0, 99999, 0), []), none, some (.bipush 97, 2, (0, 99999, 0), []), none, some (.iastore, 1, (0, 99999, 0), []), some (.dup, 1, (0, 99999, 0), []), some (.bipush 28, 2, (0, 99999, 0), []), none, some (.bipush 99, 2, (0, 99999, 0), [])],
  [none, some (.iastore, 1, (0, 99999, 0), []), some (.dup, 1, (0, 99999, 0), []), some (.bipush 29, 2, (0, 99999, 0), []), none, some (.bipush 107, 2, (0, 99999, 0), []), none, some (.iastore, 1, (0, 99999, 0), []), some (.dup, 1, (0, 99999, 0), []), some (.bipush 30, 2, (0, 99999, 0), []), none, some (.bipush 32, 2, (0, 99999, 0), []), none, some (.iastore, 1, (0, 99999, 0), []), some (.dup, 1, (0, 99999, 0), []), some (.bipush 31, 2, (0, 99999, 0), [])],
  [none, some (.iconst 0, 1, (0, 99999, 0), []), some (.iastore, 1, (0, 99999, 0), []), some (.dup, 1, (0, 99999, 0), []), some (.bipush 32, 2, (0, 99999, 0), []), none, some (.bipush 103, 2, (0, 99999, 0), []), none, some (.iastore, 1, (0, 99999, 0), []), some (.dup, 1, (0, 99999, 0), []), some (.bipush 33, 2, (0, 99999, 0), []), none, some (.bipush 114, 2, (0, 99999, 0), []), none, some (.iastore, 1, (0, 99999, 0), []), some (.dup, 1, (0, 99999, 0), [])],
  [some (.bipush 34, 2, (0, 99999, 0), []), none, some (.bipush 101, 2, (0, 99999, 0), []), none, some (.iastore, 1, (0, 99999, 0), []), some (.dup, 1, (0, 99999, 0), []), some (.bipush 35, 2, (0, 99999, 0), []), none, some (.bipush 101, 2, (0, 99999, 0), []), none, some (.iastore, 1, (0, 99999, 0), []), some (.dup, 1, (0, 99999, 0), []), some (.bipush 36, 2, (0, 99999, 0), []), none, some (.bipush 100, 2, (0, 99999, 0), []), none],
  [some (.iastore, 1, (0, 99999, 0), []), some (.dup, 1, (0, 99999, 0), []), some (.bipush 37, 2, (0, 99999, 0), []), none, some (.bipush 121, 2, (0, 99999, 0), []), none, some (.iastore, 1, (0, 99999, 0), []), some (.dup, 1, (0, 99999, 0), []), some (.bipush 38, 2, (0, 99999, 0), []), none, some (.iconst 0, 1, (0, 99999, 0), []), some (.iastore, 1, (0, 99999, 0), []), some (.dup, 1, (0, 99999, 0), []), some (.bipush 39, 2, (0, 99999, 0), []), none, some (.bipush 98, 2, (0, 99999, 0), [])],
  [none, some (.iastore, 1, (0, 99999, 0), []), some (.dup, 1, (0, 99999, 0), []), some (.bipush 40, 2, (0, 99999, 0), []), none, some (.bipush 101, 2, (0, 99999, 0), []), none, some (.iastore, 1, (0, 99999, 0), []), some (.dup, 1, (0, 99999, 0), []), some (.bipush 41, 2, (0, 99999, 0), []), none, some (.bipush 115, 2, (0, 99999, 0), []), none, some (.iastore, 1, (0, 99999, 0), []), some (.dup, 1, (0, 99999, 0), []), some (.bipush 42, 2, (0, 99999, 0), [])],
  [none, some (.bipush 116, 2, (0, 99999, 0), []), none, some (.iastore, 1, (0, 99999, 0), []), some (.dup, 1, (0, 99999, 0), []), some (.bipush 43, 2, (0, 99999, 0), []), none, some (.iconst 0, 1, (0, 99999, 0), []), some (.iastore, 1, (0, 99999, 0), []), some (.putfield 66, 3, (1, 6, 23), [4120]), none, none, some (.aload_n 0, 1, (0, 99999, 0), []), some (.bipush 7, 2, (0, 99999, 0), []), none, some (.newarray .int, 2, (0, 99999, 0), [1099])],
  [none, some (.dup, 1, (0, 99999, 0), []), some (.iconst 0, 1, (0, 99999, 0), []), some (.iconst 3, 1, (0, 99999, 0), []), some (.iastore, 1, (0, 99999, 0), []), some (.dup, 1, (0, 99999, 0), []), some (.iconst 1, 1, (0, 99999, 0), []), some (.iconst 3, 1, (0, 99999, 0), []), some (.iastore, 1, (0, 99999, 0), []), some (.dup, 1, (0, 99999, 0), []), some (.iconst 2, 1, (0, 99999, 0), []), some (.iconst 2, 1, (0, 99999, 0), []), some (.iastore, 1, (0, 99999, 0), []), some (.dup, 1, (0, 99999, 0), []), some (.iconst 3, 1, (0, 99999, 0), []), some (.iconst 2, 1, (0, 99999, 0), [])],
  [some (.iastore, 1, (0, 99999, 0), []), some (.dup, 1, (0, 99999, 0), []), some (.iconst 4, 1, (0, 99999, 0), []), some (.iconst 1, 1, (0, 99999, 0), []), some (.iastore, 1, (0, 99999, 0), []), some (.dup, 1, (0, 99999, 0), []), some (.iconst 5, 1, (0, 99999, 0), []), some (.iconst 0, 1, (0, 99999, 0), []), some (.iastore, 1, (0, 99999, 0), []), some (.dup, 1, (0, 99999, 0), []), some (.bipush 6, 2, (0, 99999, 0), []), none, some (.iconst 0, 1, (0, 99999, 0), []), some (.iastore, 1, (0, 99999, 0), []), some (.putfield 69, 3, (1, 6, 24), [4121]), none],
  [none, some (.aload_n 0, 1, (0, 99999, 0), []), some (.bipush 8, 2, (0, 99999, 0), []), none, some (.newarray .int, 2, (0, 99999, 0), [1099]), none, some (.dup, 1, (0, 99999, 0), []), some (.iconst 0, 1, (0, 99999, 0), []), some (.bipush 6, 2, (0, 99999, 0), []), none, some (.iastore, 1, (0, 99999, 0), []), some (.dup, 1, (0, 99999, 0), []), some (.iconst 1, 1, (0, 99999, 0), []), some (.bipush 9, 2, (0, 99999, 0), []), none, some (.iastore, 1, (0, 99999, 0), [])],
  [some (.dup, 1, (0, 99999, 0), []), some (.iconst 2, 1, (0, 99999, 0), []), some (.bipush 50, 2, (0, 99999, 0), []), none, some (.iastore, 1, (0, 99999, 0), []), some (.dup, 1, (0, 99999, 0), []), some (.iconst 3, 1, (0, 99999, 0), []), some (.bipush 99, 2, (0, 99999, 0), []), none, some (.iastore, 1, (0, 99999, 0), []), some (.dup, 1, (0, 99999, 0), []), some (.iconst 4, 1, (0, 99999, 0), []), some (.bipush 9, 2, (0, 99999, 0), []), none, some (.iastore, 1, (0, 99999, 0), []), some (.dup, 1, (0, 99999, 0), [])],
  [some (.iconst 5, 1, (0, 99999, 0), []), some (.bipush 7, 2, (0, 99999, 0), []), none, some (.iastore, 1, (0, 99999, 0), []), some (.dup, 1, (0, 99999, 0), []), some (.bipush 6, 2, (0, 99999, 0), []), none, some (.bipush 7, 2, (0, 99999, 0), []), none, some (.iastore, 1, (0, 99999, 0), []), some (.dup, 1, (0, 99999, 0), []), some (.bipush 7, 2, (0, 99999, 0), []), none, some (.bipush 60, 2, (0, 99999, 0), []), none, some (.iastore, 1, (0, 99999, 0), [])],
  [some (.putfield 72, 3, (1, 6, 25), [4122]), none, none, some (.aload_n 0, 1, (0, 99999, 0), []), some (.iconst 3, 1, (0, 99999, 0), []), some (.newarray .int, 2, (0, 99999, 0), [1099]), none, some (.putfield 75, 3, (1, 6, 26), [4123]), none, none, some (.aload_n 0, 1, (0, 99999, 0), []), some (.bipush 75, 2, (0, 99999, 0), []), none, some (.newarray .int, 2, (0, 99999, 0), [1099]), none, some (.putfield 78, 3, (1, 6, 32), [4129])],
  [none, none, some (.aload_n 0, 1, (0, 99999, 0), []), some (.bipush 75, 2, (0, 99999, 0), []), none, some (.newarray .int, 2, (0, 99999, 0), [1099]), none, some (.putfield 81, 3, (1, 6, 33), [4130]), none, none, some (.aload_n 0, 1, (0, 99999, 0), []), some (.bipush 75, 2, (0, 99999, 0), []), none, some (.newarray .int, 2, (0, 99999, 0), [1099]), none, some (.putfield 84, 3, (1, 6, 34), [4131])],
  [none, none, some (.aload_n 0, 1, (0, 99999, 0), []), some (.bipush 100, 2, (0, 99999, 0), []), none, some (.newarray .int, 2, (0, 99999, 0), [1099]), none, some (.putfield 87, 3, (1, 6, 35), [4132]), none, none, some (.aload_n 0, 1, (0, 99999, 0), []), some (.bipush 6, 2, (0, 99999, 0), []), none, some (.newarray .int, 2, (0, 99999, 0), [1099]), none, some (.putfield 90, 3, (1, 6, 38), [4135])],
  [none, none, some (.aload_n 0, 1, (0, 99999, 0), []), some (.bipush 6, 2, (0, 99999, 0), []), none, some (.newarray .int, 2, (0, 99999, 0), [1099]), none, some (.putfield 93, 3, (1, 6, 39), [4136]), none, none, some (.aload_n 0, 1, (0, 99999, 0), []), some (.bipush 42, 2, (0, 99999, 0), []), none, some (.newarray .int, 2, (0, 99999, 0), [1099]), none, some (.putfield 96, 3, (1, 6, 40), [4137])],
  [none, none, some (.aload_n 0, 1, (0, 99999, 0), []), some (.bipush 63, 2, (0, 99999, 0), []), none, some (.newarray .int, 2, (0, 99999, 0), [1099]), none, some (.putfield 99, 3, (1, 6, 41), [4138]), none, none, some (.aload_n 0, 1, (0, 99999, 0), []), some (.bipush 20, 2, (0, 99999, 0), []), none, some (.newarray .int, 2, (0, 99999, 0), [1099]), none, some (.putfield 102, 3, (1, 6, 46), [4143])],
  [none, none, some (.return_, 1, (0, 99999, 0), [])]])
def mX6_no : ab_D := (yX6_no, cX6_no, 2, some .int, 6, 1, false, [
  [some (.aload_n 0, 1, (0, 99999, 0), []), some (.getfield 16, 3, (1, 6, 7), [4104]), none, none, some (.iload_n 1, 1, (0, 99999, 0), []), some (.ineg, 1, (0, 99999, 0), []), some (.dup2, 1, (0, 99999, 0), []), some (.iaload, 1, (0, 99999, 0), []), some (.iconst 1, 1, (0, 99999, 0), []), some (.iadd, 1, (0, 99999, 0), []), some (.iastore, 1, (0, 99999, 0), []), some (.iload_n 1, 1, (0, 99999, 0), []), some (.ireturn, 1, (0, 99999, 0), [])]])
def mX6_noTen : ab_D := (yX6_noTen, cX6_noTen, 2, some .int, 6, 1, false, [
  [some (.aload_n 0, 1, (0, 99999, 0), []), some (.getfield 16, 3, (1, 6, 7), [4104]), none, none, some (.iload_n 1, 1, (0, 99999, 0), []), some (.ineg, 1, (0, 99999, 0), []), some (.dup2, 1, (0, 99999, 0), []), some (.iaload, 1, (0, 99999, 0), []), some (.iconst 1, 1, (0, 99999, 0), []), some (.iadd, 1, (0, 99999, 0), []), some (.iastore, 1, (0, 99999, 0), []), some (.iload_n 1, 1, (0, 99999, 0), []), some (.bipush 10, 2, (0, 99999, 0), []), none, some (.isub, 1, (0, 99999, 0), []), some (.ireturn, 1, (0, 99999, 0), [])]])
def mX6_isShelf : ab_D := (yX6_isShelf, cX6_isShelf, 2, some .boolean, 6, 1, false, [
  [some (.iload_n 1, 1, (0, 99999, 0), []), some (.ifCond .lt 13, 3, (0, 99999, 0), []), none, none, some (.iload_n 1, 1, (0, 99999, 0), []), some (.bipush 8, 2, (0, 99999, 0), []), none, some (.if_icmp .ge 7, 3, (0, 99999, 0), []), none, none, some (.iconst 1, 1, (0, 99999, 0), []), some (.goto 4, 3, (0, 99999, 0), []), none, none, some (.iconst 0, 1, (0, 99999, 0), []), some (.ireturn, 1, (0, 99999, 0), [])]])
def mX6_isPiece : ab_D := (yX6_isPiece, cX6_isPiece, 2, some .boolean, 6, 1, false, [
  [some (.iload_n 1, 1, (0, 99999, 0), []), some (.ifCond .lt 15, 3, (0, 99999, 0), []), none, none, some (.iload_n 1, 1, (0, 99999, 0), []), some (.aload_n 0, 1, (0, 99999, 0), []), some (.getfield 105, 3, (1, 6, 0), [4097]), none, none, some (.if_icmp .ge 7, 3, (0, 99999, 0), []), none, none, some (.iconst 1, 1, (0, 99999, 0), []), some (.goto 4, 3, (0, 99999, 0), []), none, none],
  [some (.iconst 0, 1, (0, 99999, 0), []), some (.ireturn, 1, (0, 99999, 0), [])]])
def mX6_isOne : ab_D := (yX6_isOne, cX6_isOne, 2, some .boolean, 6, 1, false, [
  [some (.iload_n 1, 1, (0, 99999, 0), []), some (.ifCond .lt 15, 3, (0, 99999, 0), []), none, none, some (.iload_n 1, 1, (0, 99999, 0), []), some (.aload_n 0, 1, (0, 99999, 0), []), some (.getfield 108, 3, (1, 6, 1), [4098]), none, none, some (.if_icmp .ge 7, 3, (0, 99999, 0), []), none, none, some (.iconst 1, 1, (0, 99999, 0), []), some (.goto 4, 3, (0, 99999, 0), []), none, none],
  [some (.iconst 0, 1, (0, 99999, 0), []), some (.ireturn, 1, (0, 99999, 0), [])]])
def mX6_isFrom : ab_D := (yX6_isFrom, cX6_isFrom, 4, some .boolean, 6, 3, false, [
  [some (.iload_n 1, 1, (0, 99999, 0), []), some (.iload_n 2, 1, (0, 99999, 0), []), some (.if_icmp .lt 12, 3, (0, 99999, 0), []), none, none, some (.iload_n 1, 1, (0, 99999, 0), []), some (.iload_n 3, 1, (0, 99999, 0), []), some (.if_icmp .gt 7, 3, (0, 99999, 0), []), none, none, some (.iconst 1, 1, (0, 99999, 0), []), some (.goto 4, 3, (0, 99999, 0), []), none, none, some (.iconst 0, 1, (0, 99999, 0), []), some (.ireturn, 1, (0, 99999, 0), [])]])
def mX6_row : ab_D := (yX6_row, cX6_row, 5, some .int, 6, 3, false, [
  [some (.aload_n 0, 1, (0, 99999, 0), []), some (.iload_n 1, 1, (0, 99999, 0), []), some (.invokevirtual 111, 3, (3, 131, 1), [5009, 5011, 28, 1007]), none, none, some (.ifCond .ne 9, 3, (0, 99999, 0), []), none, none, some (.aload_n 0, 1, (0, 99999, 0), []), some (.iconst (-1), 1, (0, 99999, 0), []), some (.invokevirtual 115, 3, (3, 129, 1), [5013, 5015, 29, 1007]), none, none, some (.ireturn, 1, (0, 99999, 0), []), some (.iload_n 3, 1, (0, 99999, 0), []), some (.ifCond .ge 10, 3, (0, 99999, 0), [])],
  [none, none, some (.aload_n 0, 1, (0, 99999, 0), []), some (.bipush (-4), 2, (0, 99999, 0), []), none, some (.invokevirtual 115, 3, (3, 129, 1), [5013, 5015, 29, 1007]), none, none, some (.ireturn, 1, (0, 99999, 0), []), some (.iload_n 2, 1, (0, 99999, 0), []), some (.ifCond .lt 8, 3, (0, 99999, 0), []), none, none, some (.iload_n 2, 1, (0, 99999, 0), []), some (.iconst 3, 1, (0, 99999, 0), []), some (.if_icmp .le 10, 3, (0, 99999, 0), [])],
  [none, none, some (.aload_n 0, 1, (0, 99999, 0), []), some (.bipush (-6), 2, (0, 99999, 0), []), none, some (.invokevirtual 115, 3, (3, 129, 1), [5013, 5015, 29, 1007]), none, none, some (.ireturn, 1, (0, 99999, 0), []), some (.iload_n 3, 1, (0, 99999, 0), []), some (.sipush 160, 3, (0, 99999, 0), []), none, none, some (.if_icmp .le 10, 3, (0, 99999, 0), []), none, none],
  [some (.aload_n 0, 1, (0, 99999, 0), []), some (.bipush (-7), 2, (0, 99999, 0), []), none, some (.invokevirtual 115, 3, (3, 129, 1), [5013, 5015, 29, 1007]), none, none, some (.ireturn, 1, (0, 99999, 0), []), some (.aload_n 0, 1, (0, 99999, 0), []), some (.getfield 47, 3, (1, 6, 17), [4114]), none, none, some (.iload_n 1, 1, (0, 99999, 0), []), some (.iconst 1, 1, (0, 99999, 0), []), some (.iastore, 1, (0, 99999, 0), []), some (.aload_n 0, 1, (0, 99999, 0), []), some (.getfield 50, 3, (1, 6, 18), [4115])],
  [none, none, some (.iload_n 1, 1, (0, 99999, 0), []), some (.iload_n 2, 1, (0, 99999, 0), []), some (.iastore, 1, (0, 99999, 0), []), some (.aload_n 0, 1, (0, 99999, 0), []), some (.getfield 53, 3, (1, 6, 19), [4116]), none, none, some (.iload_n 1, 1, (0, 99999, 0), []), some (.iload_n 3, 1, (0, 99999, 0), []), some (.iastore, 1, (0, 99999, 0), []), some (.iconst 0, 1, (0, 99999, 0), []), some (.istore 4, 2, (0, 99999, 0), []), none, some (.iload 4, 2, (0, 99999, 0), [])],
  [none, some (.sipush 160, 3, (0, 99999, 0), []), none, none, some (.if_icmp .ge 23, 3, (0, 99999, 0), []), none, none, some (.aload_n 0, 1, (0, 99999, 0), []), some (.getfield 59, 3, (1, 6, 21), [4118]), none, none, some (.sipush 160, 3, (0, 99999, 0), []), none, none, some (.iload_n 1, 1, (0, 99999, 0), []), some (.imul, 1, (0, 99999, 0), [])],
  [some (.iload 4, 2, (0, 99999, 0), []), none, some (.iadd, 1, (0, 99999, 0), []), some (.lconst 0, 1, (0, 99999, 0), []), some (.lastore, 1, (0, 99999, 0), []), some (.iinc 4 1, 3, (0, 99999, 0), []), none, none, some (.goto (-25), 3, (0, 99999, 0), []), none, none, some (.iconst 1, 1, (0, 99999, 0), []), some (.ireturn, 1, (0, 99999, 0), [])]])
def mX6_set : ab_D := (yX6_set, cX6_set, 5, some .int, 6, 3, false, [
  [some (.aload_n 0, 1, (0, 99999, 0), []), some (.iload_n 1, 1, (0, 99999, 0), []), some (.invokevirtual 111, 3, (3, 131, 1), [5009, 5011, 28, 1007]), none, none, some (.ifCond .ne 9, 3, (0, 99999, 0), []), none, none, some (.aload_n 0, 1, (0, 99999, 0), []), some (.iconst (-1), 1, (0, 99999, 0), []), some (.invokevirtual 115, 3, (3, 129, 1), [5013, 5015, 29, 1007]), none, none, some (.ireturn, 1, (0, 99999, 0), []), some (.aload_n 0, 1, (0, 99999, 0), []), some (.getfield 47, 3, (1, 6, 17), [4114])],
  [none, none, some (.iload_n 1, 1, (0, 99999, 0), []), some (.iaload, 1, (0, 99999, 0), []), some (.iconst 2, 1, (0, 99999, 0), []), some (.if_icmp .ne 10, 3, (0, 99999, 0), []), none, none, some (.aload_n 0, 1, (0, 99999, 0), []), some (.bipush (-2), 2, (0, 99999, 0), []), none, some (.invokevirtual 115, 3, (3, 129, 1), [5013, 5015, 29, 1007]), none, none, some (.ireturn, 1, (0, 99999, 0), []), some (.aload_n 0, 1, (0, 99999, 0), [])],
  [some (.getfield 47, 3, (1, 6, 17), [4114]), none, none, some (.iload_n 1, 1, (0, 99999, 0), []), some (.iaload, 1, (0, 99999, 0), []), some (.ifCond .ne 10, 3, (0, 99999, 0), []), none, none, some (.aload_n 0, 1, (0, 99999, 0), []), some (.bipush (-3), 2, (0, 99999, 0), []), none, some (.invokevirtual 115, 3, (3, 129, 1), [5013, 5015, 29, 1007]), none, none, some (.ireturn, 1, (0, 99999, 0), []), some (.iload_n 2, 1, (0, 99999, 0), [])],
  [some (.ifCond .lt 13, 3, (0, 99999, 0), []), none, none, some (.iload_n 2, 1, (0, 99999, 0), []), some (.aload_n 0, 1, (0, 99999, 0), []), some (.getfield 53, 3, (1, 6, 19), [4116]), none, none, some (.iload_n 1, 1, (0, 99999, 0), []), some (.iaload, 1, (0, 99999, 0), []), some (.if_icmp .lt 10, 3, (0, 99999, 0), []), none, none, some (.aload_n 0, 1, (0, 99999, 0), []), some (.bipush (-5), 2, (0, 99999, 0), []), none],
  [some (.invokevirtual 115, 3, (3, 129, 1), [5013, 5015, 29, 1007]), none, none, some (.ireturn, 1, (0, 99999, 0), []), some (.aload_n 0, 1, (0, 99999, 0), []), some (.getfield 59, 3, (1, 6, 21), [4118]), none, none, some (.sipush 160, 3, (0, 99999, 0), []), none, none, some (.iload_n 1, 1, (0, 99999, 0), []), some (.imul, 1, (0, 99999, 0), []), some (.iload_n 2, 1, (0, 99999, 0), []), some (.iadd, 1, (0, 99999, 0), []), some (.aload_n 0, 1, (0, 99999, 0), [])],
  [some (.getfield 50, 3, (1, 6, 18), [4115]), none, none, some (.iload_n 1, 1, (0, 99999, 0), []), some (.iaload, 1, (0, 99999, 0), []), some (.ifCond .ne 10, 3, (0, 99999, 0), []), none, none, some (.lload_n 3, 1, (0, 99999, 0), []), some (.l2i, 1, (0, 99999, 0), []), some (.i2b, 1, (0, 99999, 0), []), some (.i2l, 1, (0, 99999, 0), []), some (.goto 37, 3, (0, 99999, 0), []), none, none, some (.aload_n 0, 1, (0, 99999, 0), [])],
  [some (.getfield 50, 3, (1, 6, 18), [4115]), none, none, some (.iload_n 1, 1, (0, 99999, 0), []), some (.iaload, 1, (0, 99999, 0), []), some (.iconst 1, 1, (0, 99999, 0), []), some (.if_icmp .ne 10, 3, (0, 99999, 0), []), none, none, some (.lload_n 3, 1, (0, 99999, 0), []), some (.l2i, 1, (0, 99999, 0), []), some (.i2s, 1, (0, 99999, 0), []), some (.i2l, 1, (0, 99999, 0), []), some (.goto 20, 3, (0, 99999, 0), []), none, none],
  [some (.aload_n 0, 1, (0, 99999, 0), []), some (.getfield 50, 3, (1, 6, 18), [4115]), none, none, some (.iload_n 1, 1, (0, 99999, 0), []), some (.iaload, 1, (0, 99999, 0), []), some (.iconst 2, 1, (0, 99999, 0), []), some (.if_icmp .ne 9, 3, (0, 99999, 0), []), none, none, some (.lload_n 3, 1, (0, 99999, 0), []), some (.l2i, 1, (0, 99999, 0), []), some (.i2l, 1, (0, 99999, 0), []), some (.goto 4, 3, (0, 99999, 0), []), none, none],
  [some (.lload_n 3, 1, (0, 99999, 0), []), some (.lastore, 1, (0, 99999, 0), []), some (.iconst 1, 1, (0, 99999, 0), []), some (.ireturn, 1, (0, 99999, 0), [])]])
def mX6_copy : ab_D := (yX6_copy, cX6_copy, 7, some .int, 6, 5, false, [
  [some (.aload_n 0, 1, (0, 99999, 0), []), some (.iload_n 1, 1, (0, 99999, 0), []), some (.invokevirtual 111, 3, (3, 131, 1), [5009, 5011, 28, 1007]), none, none, some (.ifCond .eq 11, 3, (0, 99999, 0), []), none, none, some (.aload_n 0, 1, (0, 99999, 0), []), some (.iload_n 2, 1, (0, 99999, 0), []), some (.invokevirtual 111, 3, (3, 131, 1), [5009, 5011, 28, 1007]), none, none, some (.ifCond .ne 9, 3, (0, 99999, 0), []), none, none],
  [some (.aload_n 0, 1, (0, 99999, 0), []), some (.iconst (-1), 1, (0, 99999, 0), []), some (.invokevirtual 115, 3, (3, 129, 1), [5013, 5015, 29, 1007]), none, none, some (.ireturn, 1, (0, 99999, 0), []), some (.aload_n 0, 1, (0, 99999, 0), []), some (.getfield 47, 3, (1, 6, 17), [4114]), none, none, some (.iload_n 1, 1, (0, 99999, 0), []), some (.iaload, 1, (0, 99999, 0), []), some (.iconst 2, 1, (0, 99999, 0), []), some (.if_icmp .eq 48, 3, (0, 99999, 0), []), none, none],
  [some (.aload_n 0, 1, (0, 99999, 0), []), some (.getfield 47, 3, (1, 6, 17), [4114]), none, none, some (.iload_n 2, 1, (0, 99999, 0), []), some (.iaload, 1, (0, 99999, 0), []), some (.iconst 2, 1, (0, 99999, 0), []), some (.if_icmp .eq 38, 3, (0, 99999, 0), []), none, none, some (.aload_n 0, 1, (0, 99999, 0), []), some (.getfield 47, 3, (1, 6, 17), [4114]), none, none, some (.iload_n 1, 1, (0, 99999, 0), []), some (.iaload, 1, (0, 99999, 0), [])],
  [some (.iconst 1, 1, (0, 99999, 0), []), some (.if_icmp .ne 35, 3, (0, 99999, 0), []), none, none, some (.aload_n 0, 1, (0, 99999, 0), []), some (.getfield 47, 3, (1, 6, 17), [4114]), none, none, some (.iload_n 2, 1, (0, 99999, 0), []), some (.iaload, 1, (0, 99999, 0), []), some (.iconst 1, 1, (0, 99999, 0), []), some (.if_icmp .ne 25, 3, (0, 99999, 0), []), none, none, some (.aload_n 0, 1, (0, 99999, 0), []), some (.getfield 50, 3, (1, 6, 18), [4115])],
  [none, none, some (.iload_n 1, 1, (0, 99999, 0), []), some (.iaload, 1, (0, 99999, 0), []), some (.aload_n 0, 1, (0, 99999, 0), []), some (.getfield 50, 3, (1, 6, 18), [4115]), none, none, some (.iload_n 2, 1, (0, 99999, 0), []), some (.iaload, 1, (0, 99999, 0), []), some (.if_icmp .eq 10, 3, (0, 99999, 0), []), none, none, some (.aload_n 0, 1, (0, 99999, 0), []), some (.bipush (-2), 2, (0, 99999, 0), []), none],
  [some (.invokevirtual 115, 3, (3, 129, 1), [5013, 5015, 29, 1007]), none, none, some (.ireturn, 1, (0, 99999, 0), []), some (.aload_n 0, 1, (0, 99999, 0), []), some (.getfield 47, 3, (1, 6, 17), [4114]), none, none, some (.iload_n 1, 1, (0, 99999, 0), []), some (.iaload, 1, (0, 99999, 0), []), some (.ifCond .eq 12, 3, (0, 99999, 0), []), none, none, some (.aload_n 0, 1, (0, 99999, 0), []), some (.getfield 47, 3, (1, 6, 17), [4114]), none],
  [none, some (.iload_n 2, 1, (0, 99999, 0), []), some (.iaload, 1, (0, 99999, 0), []), some (.ifCond .ne 10, 3, (0, 99999, 0), []), none, none, some (.aload_n 0, 1, (0, 99999, 0), []), some (.bipush (-3), 2, (0, 99999, 0), []), none, some (.invokevirtual 115, 3, (3, 129, 1), [5013, 5015, 29, 1007]), none, none, some (.ireturn, 1, (0, 99999, 0), []), some (.iload 5, 2, (0, 99999, 0), []), none, some (.ifCond .ge 10, 3, (0, 99999, 0), [])],
  [none, none, some (.aload_n 0, 1, (0, 99999, 0), []), some (.bipush (-4), 2, (0, 99999, 0), []), none, some (.invokevirtual 115, 3, (3, 129, 1), [5013, 5015, 29, 1007]), none, none, some (.ireturn, 1, (0, 99999, 0), []), some (.iload_n 3, 1, (0, 99999, 0), []), some (.ifCond .lt 35, 3, (0, 99999, 0), []), none, none, some (.iload 4, 2, (0, 99999, 0), []), none, some (.ifCond .lt 30, 3, (0, 99999, 0), [])],
  [none, none, some (.iload_n 3, 1, (0, 99999, 0), []), some (.aload_n 0, 1, (0, 99999, 0), []), some (.getfield 53, 3, (1, 6, 19), [4116]), none, none, some (.iload_n 1, 1, (0, 99999, 0), []), some (.iaload, 1, (0, 99999, 0), []), some (.iload 5, 2, (0, 99999, 0), []), none, some (.isub, 1, (0, 99999, 0), []), some (.if_icmp .gt 17, 3, (0, 99999, 0), []), none, none, some (.iload 4, 2, (0, 99999, 0), [])],
  [none, some (.aload_n 0, 1, (0, 99999, 0), []), some (.getfield 53, 3, (1, 6, 19), [4116]), none, none, some (.iload_n 2, 1, (0, 99999, 0), []), some (.iaload, 1, (0, 99999, 0), []), some (.iload 5, 2, (0, 99999, 0), []), none, some (.isub, 1, (0, 99999, 0), []), some (.if_icmp .le 10, 3, (0, 99999, 0), []), none, none, some (.aload_n 0, 1, (0, 99999, 0), []), some (.bipush (-5), 2, (0, 99999, 0), []), none],
  [some (.invokevirtual 115, 3, (3, 129, 1), [5013, 5015, 29, 1007]), none, none, some (.ireturn, 1, (0, 99999, 0), []), some (.iconst 0, 1, (0, 99999, 0), []), some (.istore 6, 2, (0, 99999, 0), []), none, some (.iload 6, 2, (0, 99999, 0), []), none, some (.iload 5, 2, (0, 99999, 0), []), none, some (.if_icmp .ge 31, 3, (0, 99999, 0), []), none, none, some (.aload_n 0, 1, (0, 99999, 0), []), some (.getfield 63, 3, (1, 6, 22), [4119])],
  [none, none, some (.iload 6, 2, (0, 99999, 0), []), none, some (.aload_n 0, 1, (0, 99999, 0), []), some (.getfield 59, 3, (1, 6, 21), [4118]), none, none, some (.sipush 160, 3, (0, 99999, 0), []), none, none, some (.iload_n 1, 1, (0, 99999, 0), []), some (.imul, 1, (0, 99999, 0), []), some (.iload_n 3, 1, (0, 99999, 0), []), some (.iadd, 1, (0, 99999, 0), []), some (.iload 6, 2, (0, 99999, 0), [])],
  [none, some (.iadd, 1, (0, 99999, 0), []), some (.laload, 1, (0, 99999, 0), []), some (.lastore, 1, (0, 99999, 0), []), some (.iinc 6 1, 3, (0, 99999, 0), []), none, none, some (.goto (-32), 3, (0, 99999, 0), []), none, none, some (.iconst 0, 1, (0, 99999, 0), []), some (.istore 6, 2, (0, 99999, 0), []), none, some (.iload 6, 2, (0, 99999, 0), []), none, some (.iload 5, 2, (0, 99999, 0), [])],
  [none, some (.if_icmp .ge 32, 3, (0, 99999, 0), []), none, none, some (.aload_n 0, 1, (0, 99999, 0), []), some (.getfield 59, 3, (1, 6, 21), [4118]), none, none, some (.sipush 160, 3, (0, 99999, 0), []), none, none, some (.iload_n 2, 1, (0, 99999, 0), []), some (.imul, 1, (0, 99999, 0), []), some (.iload 4, 2, (0, 99999, 0), []), none, some (.iadd, 1, (0, 99999, 0), [])],
  [some (.iload 6, 2, (0, 99999, 0), []), none, some (.iadd, 1, (0, 99999, 0), []), some (.aload_n 0, 1, (0, 99999, 0), []), some (.getfield 63, 3, (1, 6, 22), [4119]), none, none, some (.iload 6, 2, (0, 99999, 0), []), none, some (.laload, 1, (0, 99999, 0), []), some (.lastore, 1, (0, 99999, 0), []), some (.iinc 6 1, 3, (0, 99999, 0), []), none, none, some (.goto (-33), 3, (0, 99999, 0), []), none],
  [none, some (.iconst 1, 1, (0, 99999, 0), []), some (.ireturn, 1, (0, 99999, 0), [])]])
def mX6_element : ab_D := (yX6_element, cX6_element, 3, some .long, 6, 2, false, [
  [some (.aload_n 0, 1, (0, 99999, 0), []), some (.iload_n 1, 1, (0, 99999, 0), []), some (.invokevirtual 111, 3, (3, 131, 1), [5009, 5011, 28, 1007]), none, none, some (.ifCond .eq 42, 3, (0, 99999, 0), []), none, none, some (.aload_n 0, 1, (0, 99999, 0), []), some (.getfield 47, 3, (1, 6, 17), [4114]), none, none, some (.iload_n 1, 1, (0, 99999, 0), []), some (.iaload, 1, (0, 99999, 0), []), some (.iconst 1, 1, (0, 99999, 0), []), some (.if_icmp .ne 32, 3, (0, 99999, 0), [])],
  [none, none, some (.iload_n 2, 1, (0, 99999, 0), []), some (.ifCond .lt 28, 3, (0, 99999, 0), []), none, none, some (.iload_n 2, 1, (0, 99999, 0), []), some (.aload_n 0, 1, (0, 99999, 0), []), some (.getfield 53, 3, (1, 6, 19), [4116]), none, none, some (.iload_n 1, 1, (0, 99999, 0), []), some (.iaload, 1, (0, 99999, 0), []), some (.if_icmp .ge 18, 3, (0, 99999, 0), []), none, none],
  [some (.aload_n 0, 1, (0, 99999, 0), []), some (.getfield 59, 3, (1, 6, 21), [4118]), none, none, some (.sipush 160, 3, (0, 99999, 0), []), none, none, some (.iload_n 1, 1, (0, 99999, 0), []), some (.imul, 1, (0, 99999, 0), []), some (.iload_n 2, 1, (0, 99999, 0), []), some (.iadd, 1, (0, 99999, 0), []), some (.laload, 1, (0, 99999, 0), []), some (.goto 4, 3, (0, 99999, 0), []), none, none, some (.lconst 0, 1, (0, 99999, 0), [])],
  [some (.lreturn, 1, (0, 99999, 0), [])]])
def mX6_show : ab_D := (yX6_show, cX6_show, 3, some .int, 6, 2, false, [
  [some (.aload_n 0, 1, (0, 99999, 0), []), some (.iload_n 1, 1, (0, 99999, 0), []), some (.invokevirtual 111, 3, (3, 131, 1), [5009, 5011, 28, 1007]), none, none, some (.ifCond .eq 16, 3, (0, 99999, 0), []), none, none, some (.iload_n 2, 1, (0, 99999, 0), []), some (.iconst (-1), 1, (0, 99999, 0), []), some (.if_icmp .eq 17, 3, (0, 99999, 0), []), none, none, some (.aload_n 0, 1, (0, 99999, 0), []), some (.iload_n 2, 1, (0, 99999, 0), []), some (.invokevirtual 119, 3, (3, 132, 1), [5033, 5035, 30, 1007])],
  [none, none, some (.ifCond .ne 9, 3, (0, 99999, 0), []), none, none, some (.aload_n 0, 1, (0, 99999, 0), []), some (.iconst (-1), 1, (0, 99999, 0), []), some (.invokevirtual 115, 3, (3, 129, 1), [5013, 5015, 29, 1007]), none, none, some (.ireturn, 1, (0, 99999, 0), []), some (.aload_n 0, 1, (0, 99999, 0), []), some (.getfield 47, 3, (1, 6, 17), [4114]), none, none, some (.iload_n 1, 1, (0, 99999, 0), [])],
  [some (.iload_n 2, 1, (0, 99999, 0), []), some (.iconst (-1), 1, (0, 99999, 0), []), some (.if_icmp .ne 7, 3, (0, 99999, 0), []), none, none, some (.iconst 0, 1, (0, 99999, 0), []), some (.goto 4, 3, (0, 99999, 0), []), none, none, some (.iconst 2, 1, (0, 99999, 0), []), some (.iastore, 1, (0, 99999, 0), []), some (.aload_n 0, 1, (0, 99999, 0), []), some (.getfield 56, 3, (1, 6, 20), [4117]), none, none, some (.iload_n 1, 1, (0, 99999, 0), [])],
  [some (.iload_n 2, 1, (0, 99999, 0), []), some (.iastore, 1, (0, 99999, 0), []), some (.iload_n 2, 1, (0, 99999, 0), []), some (.iconst (-1), 1, (0, 99999, 0), []), some (.if_icmp .ne 7, 3, (0, 99999, 0), []), none, none, some (.iconst 0, 1, (0, 99999, 0), []), some (.goto 4, 3, (0, 99999, 0), []), none, none, some (.iconst 1, 1, (0, 99999, 0), []), some (.ireturn, 1, (0, 99999, 0), [])]])
def mX6_holds : ab_D := (yX6_holds, cX6_holds, 2, some .int, 6, 1, false, [
  [some (.aload_n 0, 1, (0, 99999, 0), []), some (.iload_n 1, 1, (0, 99999, 0), []), some (.invokevirtual 111, 3, (3, 131, 1), [5009, 5011, 28, 1007]), none, none, some (.ifCond .eq 12, 3, (0, 99999, 0), []), none, none, some (.aload_n 0, 1, (0, 99999, 0), []), some (.getfield 47, 3, (1, 6, 17), [4114]), none, none, some (.iload_n 1, 1, (0, 99999, 0), []), some (.iaload, 1, (0, 99999, 0), []), some (.ifCond .ne 5, 3, (0, 99999, 0), []), none],
  [none, some (.iconst (-1), 1, (0, 99999, 0), []), some (.ireturn, 1, (0, 99999, 0), []), some (.aload_n 0, 1, (0, 99999, 0), []), some (.getfield 47, 3, (1, 6, 17), [4114]), none, none, some (.iload_n 1, 1, (0, 99999, 0), []), some (.iaload, 1, (0, 99999, 0), []), some (.iconst 1, 1, (0, 99999, 0), []), some (.if_icmp .ne 15, 3, (0, 99999, 0), []), none, none, some (.bipush 100, 2, (0, 99999, 0), []), none, some (.aload_n 0, 1, (0, 99999, 0), [])],
  [some (.getfield 50, 3, (1, 6, 18), [4115]), none, none, some (.iload_n 1, 1, (0, 99999, 0), []), some (.iaload, 1, (0, 99999, 0), []), some (.iadd, 1, (0, 99999, 0), []), some (.goto 9, 3, (0, 99999, 0), []), none, none, some (.aload_n 0, 1, (0, 99999, 0), []), some (.getfield 56, 3, (1, 6, 20), [4117]), none, none, some (.iload_n 1, 1, (0, 99999, 0), []), some (.iaload, 1, (0, 99999, 0), []), some (.ireturn, 1, (0, 99999, 0), [])]])
def mX6_says : ab_D := (yX6_says, cX6_says, 6, some .int, 6, 2, false, [
  [some (.aload_n 0, 1, (0, 99999, 0), []), some (.iload_n 1, 1, (0, 99999, 0), []), some (.invokevirtual 111, 3, (3, 131, 1), [5009, 5011, 28, 1007]), none, none, some (.ifCond .eq 13, 3, (0, 99999, 0), []), none, none, some (.iload_n 2, 1, (0, 99999, 0), []), some (.ifCond .lt 9, 3, (0, 99999, 0), []), none, none, some (.iload_n 2, 1, (0, 99999, 0), []), some (.bipush 6, 2, (0, 99999, 0), []), none, some (.if_icmp .le 9, 3, (0, 99999, 0), [])],
  [none, none, some (.aload_n 0, 1, (0, 99999, 0), []), some (.iconst (-1), 1, (0, 99999, 0), []), some (.invokevirtual 115, 3, (3, 129, 1), [5013, 5015, 29, 1007]), none, none, some (.ireturn, 1, (0, 99999, 0), []), some (.aload_n 0, 1, (0, 99999, 0), []), some (.getfield 47, 3, (1, 6, 17), [4114]), none, none, some (.iload_n 1, 1, (0, 99999, 0), []), some (.iaload, 1, (0, 99999, 0), []), some (.iconst 1, 1, (0, 99999, 0), []), some (.if_icmp .ne 10, 3, (0, 99999, 0), [])],
  [none, none, some (.aload_n 0, 1, (0, 99999, 0), []), some (.bipush (-2), 2, (0, 99999, 0), []), none, some (.invokevirtual 115, 3, (3, 129, 1), [5013, 5015, 29, 1007]), none, none, some (.ireturn, 1, (0, 99999, 0), []), some (.aload_n 0, 1, (0, 99999, 0), []), some (.getfield 47, 3, (1, 6, 17), [4114]), none, none, some (.iload_n 1, 1, (0, 99999, 0), []), some (.iaload, 1, (0, 99999, 0), []), some (.ifCond .ne 10, 3, (0, 99999, 0), [])],
  [none, none, some (.aload_n 0, 1, (0, 99999, 0), []), some (.bipush (-3), 2, (0, 99999, 0), []), none, some (.invokevirtual 115, 3, (3, 129, 1), [5013, 5015, 29, 1007]), none, none, some (.ireturn, 1, (0, 99999, 0), []), some (.aload_n 0, 1, (0, 99999, 0), []), some (.getfield 56, 3, (1, 6, 20), [4117]), none, none, some (.iload_n 1, 1, (0, 99999, 0), []), some (.iaload, 1, (0, 99999, 0), []), some (.istore_n 3, 1, (0, 99999, 0), [])],
  [some (.aload_n 0, 1, (0, 99999, 0), []), some (.getfield 20, 3, (1, 6, 8), [4105]), none, none, some (.iload_n 3, 1, (0, 99999, 0), []), some (.iaload, 1, (0, 99999, 0), []), some (.istore 4, 2, (0, 99999, 0), []), none, some (.iload_n 2, 1, (0, 99999, 0), []), some (.iconst 1, 1, (0, 99999, 0), []), some (.if_icmp .ne 9, 3, (0, 99999, 0), []), none, none, some (.iload 4, 2, (0, 99999, 0), []), none, some (.iconst 3, 1, (0, 99999, 0), [])],
  [some (.if_icmp .eq 26, 3, (0, 99999, 0), []), none, none, some (.iload_n 2, 1, (0, 99999, 0), []), some (.iconst 2, 1, (0, 99999, 0), []), some (.if_icmp .ne 9, 3, (0, 99999, 0), []), none, none, some (.iload 4, 2, (0, 99999, 0), []), none, some (.iconst 5, 1, (0, 99999, 0), []), some (.if_icmp .eq 15, 3, (0, 99999, 0), []), none, none, some (.iload_n 2, 1, (0, 99999, 0), []), some (.iconst 4, 1, (0, 99999, 0), [])],
  [some (.if_icmp .ne 14, 3, (0, 99999, 0), []), none, none, some (.iload 4, 2, (0, 99999, 0), []), none, some (.bipush 6, 2, (0, 99999, 0), []), none, some (.if_icmp .ne 7, 3, (0, 99999, 0), []), none, none, some (.iconst 1, 1, (0, 99999, 0), []), some (.goto 4, 3, (0, 99999, 0), []), none, none, some (.iconst 0, 1, (0, 99999, 0), []), some (.istore 5, 2, (0, 99999, 0), [])],
  [none, some (.iload_n 2, 1, (0, 99999, 0), []), some (.ifCond .eq 21, 3, (0, 99999, 0), []), none, none, some (.iload_n 2, 1, (0, 99999, 0), []), some (.iload 4, 2, (0, 99999, 0), []), none, some (.if_icmp .eq 15, 3, (0, 99999, 0), []), none, none, some (.iload 5, 2, (0, 99999, 0), []), none, some (.ifCond .ne 10, 3, (0, 99999, 0), []), none, none],
  [some (.aload_n 0, 1, (0, 99999, 0), []), some (.bipush (-2), 2, (0, 99999, 0), []), none, some (.invokevirtual 115, 3, (3, 129, 1), [5013, 5015, 29, 1007]), none, none, some (.ireturn, 1, (0, 99999, 0), []), some (.iload_n 2, 1, (0, 99999, 0), []), some (.tableswitch 59 0 5 #[40, 47, 53, 47, 59, 53], 40, (0, 99999, 0), []), none, none, none, none, none, none, none],
  [none, none, none, none, none, none, none, none, none, none, none, none, none, none, none, none],
  [none, none, none, none, none, none, none, none, none, none, none, none, none, none, none, none],
  [some (.aload_n 0, 1, (0, 99999, 0), []), some (.getfield 26, 3, (1, 6, 10), [4107]), none, none, some (.iload_n 3, 1, (0, 99999, 0), []), some (.iaload, 1, (0, 99999, 0), []), some (.ireturn, 1, (0, 99999, 0), []), some (.aload_n 0, 1, (0, 99999, 0), []), some (.iload_n 3, 1, (0, 99999, 0), []), some (.invokevirtual 122, 3, (3, 145, 1), [5045, 5047, 31, 1007]), none, none, some (.ireturn, 1, (0, 99999, 0), []), some (.aload_n 0, 1, (0, 99999, 0), []), some (.iload_n 3, 1, (0, 99999, 0), []), some (.invokevirtual 125, 3, (3, 144, 1), [5049, 5051, 32, 1007])],
  [none, none, some (.ireturn, 1, (0, 99999, 0), []), some (.aload_n 0, 1, (0, 99999, 0), []), some (.getfield 23, 3, (1, 6, 9), [4106]), none, none, some (.iload_n 3, 1, (0, 99999, 0), []), some (.iaload, 1, (0, 99999, 0), []), some (.ireturn, 1, (0, 99999, 0), [])]])
def mX6_wanted : ab_D := (yX6_wanted, cX6_wanted, 2, some .int, 6, 1, false, [
  [some (.aload_n 0, 1, (0, 99999, 0), []), some (.iload_n 1, 1, (0, 99999, 0), []), some (.invokevirtual 111, 3, (3, 131, 1), [5009, 5011, 28, 1007]), none, none, some (.ifCond .ne 7, 3, (0, 99999, 0), []), none, none, some (.iconst (-1), 1, (0, 99999, 0), []), some (.goto 33, 3, (0, 99999, 0), []), none, none, some (.aload_n 0, 1, (0, 99999, 0), []), some (.getfield 47, 3, (1, 6, 17), [4114]), none, none],
  [some (.iload_n 1, 1, (0, 99999, 0), []), some (.iaload, 1, (0, 99999, 0), []), some (.iconst 2, 1, (0, 99999, 0), []), some (.if_icmp .ne 8, 3, (0, 99999, 0), []), none, none, some (.bipush (-2), 2, (0, 99999, 0), []), none, some (.goto 18, 3, (0, 99999, 0), []), none, none, some (.aload_n 0, 1, (0, 99999, 0), []), some (.getfield 47, 3, (1, 6, 17), [4114]), none, none, some (.iload_n 1, 1, (0, 99999, 0), [])],
  [some (.iaload, 1, (0, 99999, 0), []), some (.ifCond .ne 8, 3, (0, 99999, 0), []), none, none, some (.bipush (-3), 2, (0, 99999, 0), []), none, some (.goto 4, 3, (0, 99999, 0), []), none, none, some (.iconst 0, 1, (0, 99999, 0), []), some (.ireturn, 1, (0, 99999, 0), [])]])
def mX6_intAt : ab_D := (yX6_intAt, cX6_intAt, 3, some .int, 6, 2, false, [
  [some (.aload_n 0, 1, (0, 99999, 0), []), some (.getfield 59, 3, (1, 6, 21), [4118]), none, none, some (.sipush 160, 3, (0, 99999, 0), []), none, none, some (.iload_n 1, 1, (0, 99999, 0), []), some (.imul, 1, (0, 99999, 0), []), some (.iload_n 2, 1, (0, 99999, 0), []), some (.iadd, 1, (0, 99999, 0), []), some (.laload, 1, (0, 99999, 0), []), some (.l2i, 1, (0, 99999, 0), []), some (.ireturn, 1, (0, 99999, 0), [])]])
def mX6_worth : ab_D := (yX6_worth, cX6_worth, 4, some .int, 6, 1, false, [
  [some (.aload_n 0, 1, (0, 99999, 0), []), some (.getfield 26, 3, (1, 6, 10), [4107]), none, none, some (.iload_n 1, 1, (0, 99999, 0), []), some (.iaload, 1, (0, 99999, 0), []), some (.istore_n 2, 1, (0, 99999, 0), []), some (.aload_n 0, 1, (0, 99999, 0), []), some (.getfield 23, 3, (1, 6, 9), [4106]), none, none, some (.iload_n 1, 1, (0, 99999, 0), []), some (.iaload, 1, (0, 99999, 0), []), some (.istore_n 3, 1, (0, 99999, 0), []), some (.aload_n 0, 1, (0, 99999, 0), []), some (.getfield 20, 3, (1, 6, 8), [4105])],
  [none, none, some (.iload_n 1, 1, (0, 99999, 0), []), some (.iaload, 1, (0, 99999, 0), []), some (.tableswitch 87 1 6 #[40, 46, 50, 73, 75, 83], 40, (0, 99999, 0), []), none, none, none, none, none, none, none, none, none, none, none],
  [none, none, none, none, none, none, none, none, none, none, none, none, none, none, none, none],
  [none, none, none, none, none, none, none, none, none, none, none, none, some (.iload_n 2, 1, (0, 99999, 0), []), some (.iconst 1, 1, (0, 99999, 0), []), some (.iadd, 1, (0, 99999, 0), []), some (.iconst 2, 1, (0, 99999, 0), [])],
  [some (.idiv, 1, (0, 99999, 0), []), some (.ireturn, 1, (0, 99999, 0), []), some (.iload_n 2, 1, (0, 99999, 0), []), some (.iload_n 3, 1, (0, 99999, 0), []), some (.iadd, 1, (0, 99999, 0), []), some (.ireturn, 1, (0, 99999, 0), []), some (.iload_n 2, 1, (0, 99999, 0), []), some (.iconst 1, 1, (0, 99999, 0), []), some (.iadd, 1, (0, 99999, 0), []), some (.iconst 2, 1, (0, 99999, 0), []), some (.idiv, 1, (0, 99999, 0), []), some (.iload_n 3, 1, (0, 99999, 0), []), some (.isub, 1, (0, 99999, 0), []), some (.iconst 1, 1, (0, 99999, 0), []), some (.if_icmp .ge 7, 3, (0, 99999, 0), []), none],
  [none, some (.iconst 1, 1, (0, 99999, 0), []), some (.goto 10, 3, (0, 99999, 0), []), none, none, some (.iload_n 2, 1, (0, 99999, 0), []), some (.iconst 1, 1, (0, 99999, 0), []), some (.iadd, 1, (0, 99999, 0), []), some (.iconst 2, 1, (0, 99999, 0), []), some (.idiv, 1, (0, 99999, 0), []), some (.iload_n 3, 1, (0, 99999, 0), []), some (.isub, 1, (0, 99999, 0), []), some (.ireturn, 1, (0, 99999, 0), []), some (.iconst 1, 1, (0, 99999, 0), []), some (.ireturn, 1, (0, 99999, 0), []), some (.iload_n 2, 1, (0, 99999, 0), [])],
  [some (.iload_n 3, 1, (0, 99999, 0), []), some (.iadd, 1, (0, 99999, 0), []), some (.iconst 1, 1, (0, 99999, 0), []), some (.iadd, 1, (0, 99999, 0), []), some (.iconst 2, 1, (0, 99999, 0), []), some (.idiv, 1, (0, 99999, 0), []), some (.ireturn, 1, (0, 99999, 0), []), some (.iconst 1, 1, (0, 99999, 0), []), some (.iload_n 3, 1, (0, 99999, 0), []), some (.iadd, 1, (0, 99999, 0), []), some (.ireturn, 1, (0, 99999, 0), []), some (.iload_n 2, 1, (0, 99999, 0), []), some (.ireturn, 1, (0, 99999, 0), [])]])
def mX6_harms : ab_D := (yX6_harms, cX6_harms, 2, some .int, 6, 1, false, [
  [some (.aload_n 0, 1, (0, 99999, 0), []), some (.getfield 20, 3, (1, 6, 8), [4105]), none, none, some (.iload_n 1, 1, (0, 99999, 0), []), some (.iaload, 1, (0, 99999, 0), []), some (.iconst 1, 1, (0, 99999, 0), []), some (.if_icmp .ne 12, 3, (0, 99999, 0), []), none, none, some (.aload_n 0, 1, (0, 99999, 0), []), some (.getfield 23, 3, (1, 6, 9), [4106]), none, none, some (.iload_n 1, 1, (0, 99999, 0), []), some (.iaload, 1, (0, 99999, 0), [])],
  [some (.goto 39, 3, (0, 99999, 0), []), none, none, some (.aload_n 0, 1, (0, 99999, 0), []), some (.getfield 20, 3, (1, 6, 8), [4105]), none, none, some (.iload_n 1, 1, (0, 99999, 0), []), some (.iaload, 1, (0, 99999, 0), []), some (.iconst 3, 1, (0, 99999, 0), []), some (.if_icmp .ne 14, 3, (0, 99999, 0), []), none, none, some (.iconst 2, 1, (0, 99999, 0), []), some (.aload_n 0, 1, (0, 99999, 0), []), some (.getfield 23, 3, (1, 6, 9), [4106])],
  [none, none, some (.iload_n 1, 1, (0, 99999, 0), []), some (.iaload, 1, (0, 99999, 0), []), some (.imul, 1, (0, 99999, 0), []), some (.goto 18, 3, (0, 99999, 0), []), none, none, some (.aload_n 0, 1, (0, 99999, 0), []), some (.getfield 20, 3, (1, 6, 8), [4105]), none, none, some (.iload_n 1, 1, (0, 99999, 0), []), some (.iaload, 1, (0, 99999, 0), []), some (.iconst 4, 1, (0, 99999, 0), []), some (.if_icmp .ne 7, 3, (0, 99999, 0), [])],
  [none, none, some (.iconst 1, 1, (0, 99999, 0), []), some (.goto 4, 3, (0, 99999, 0), []), none, none, some (.iconst 0, 1, (0, 99999, 0), []), some (.ireturn, 1, (0, 99999, 0), [])]])
def mX6_addsPiece : ab_D := (yX6_addsPiece, cX6_addsPiece, 4, some .int, 6, 3, false, [
  [some (.aload_n 0, 1, (0, 99999, 0), []), some (.getfield 20, 3, (1, 6, 8), [4105]), none, none, some (.aload_n 0, 1, (0, 99999, 0), []), some (.getfield 105, 3, (1, 6, 0), [4097]), none, none, some (.iload_n 1, 1, (0, 99999, 0), []), some (.iastore, 1, (0, 99999, 0), []), some (.aload_n 0, 1, (0, 99999, 0), []), some (.getfield 23, 3, (1, 6, 9), [4106]), none, none, some (.aload_n 0, 1, (0, 99999, 0), []), some (.getfield 105, 3, (1, 6, 0), [4097])],
  [none, none, some (.iload_n 2, 1, (0, 99999, 0), []), some (.iastore, 1, (0, 99999, 0), []), some (.aload_n 0, 1, (0, 99999, 0), []), some (.getfield 26, 3, (1, 6, 10), [4107]), none, none, some (.aload_n 0, 1, (0, 99999, 0), []), some (.getfield 105, 3, (1, 6, 0), [4097]), none, none, some (.iload_n 3, 1, (0, 99999, 0), []), some (.iastore, 1, (0, 99999, 0), []), some (.aload_n 0, 1, (0, 99999, 0), []), some (.getfield 29, 3, (1, 6, 11), [4108])],
  [none, none, some (.aload_n 0, 1, (0, 99999, 0), []), some (.getfield 105, 3, (1, 6, 0), [4097]), none, none, some (.bipush 99, 2, (0, 99999, 0), []), none, some (.iastore, 1, (0, 99999, 0), []), some (.aload_n 0, 1, (0, 99999, 0), []), some (.dup, 1, (0, 99999, 0), []), some (.getfield 105, 3, (1, 6, 0), [4097]), none, none, some (.dup_x1, 1, (0, 99999, 0), []), some (.iconst 1, 1, (0, 99999, 0), [])],
  [some (.iadd, 1, (0, 99999, 0), []), some (.putfield 105, 3, (1, 6, 0), [4097]), none, none, some (.ireturn, 1, (0, 99999, 0), [])]])
def mX6_addsPerson : ab_D := (yX6_addsPerson, cX6_addsPerson, 4, some .int, 6, 3, false, [
  [some (.aload_n 0, 1, (0, 99999, 0), []), some (.getfield 32, 3, (1, 6, 12), [4109]), none, none, some (.aload_n 0, 1, (0, 99999, 0), []), some (.getfield 108, 3, (1, 6, 1), [4098]), none, none, some (.iload_n 1, 1, (0, 99999, 0), []), some (.iastore, 1, (0, 99999, 0), []), some (.aload_n 0, 1, (0, 99999, 0), []), some (.getfield 35, 3, (1, 6, 13), [4110]), none, none, some (.aload_n 0, 1, (0, 99999, 0), []), some (.getfield 108, 3, (1, 6, 1), [4098])],
  [none, none, some (.iload_n 2, 1, (0, 99999, 0), []), some (.iastore, 1, (0, 99999, 0), []), some (.aload_n 0, 1, (0, 99999, 0), []), some (.getfield 38, 3, (1, 6, 14), [4111]), none, none, some (.aload_n 0, 1, (0, 99999, 0), []), some (.getfield 108, 3, (1, 6, 1), [4098]), none, none, some (.iload_n 3, 1, (0, 99999, 0), []), some (.iastore, 1, (0, 99999, 0), []), some (.aload_n 0, 1, (0, 99999, 0), []), some (.getfield 41, 3, (1, 6, 15), [4112])],
  [none, none, some (.aload_n 0, 1, (0, 99999, 0), []), some (.getfield 108, 3, (1, 6, 1), [4098]), none, none, some (.iconst 0, 1, (0, 99999, 0), []), some (.iastore, 1, (0, 99999, 0), []), some (.aload_n 0, 1, (0, 99999, 0), []), some (.dup, 1, (0, 99999, 0), []), some (.getfield 108, 3, (1, 6, 1), [4098]), none, none, some (.dup_x1, 1, (0, 99999, 0), []), some (.iconst 1, 1, (0, 99999, 0), []), some (.iadd, 1, (0, 99999, 0), [])],
  [some (.putfield 108, 3, (1, 6, 1), [4098]), none, none, some (.ireturn, 1, (0, 99999, 0), [])]])
def mX6_piece : ab_D := (yX6_piece, cX6_piece, 4, some .int, 6, 3, false, [
  [some (.iload_n 1, 1, (0, 99999, 0), []), some (.ifCond .lt 9, 3, (0, 99999, 0), []), none, none, some (.iload_n 1, 1, (0, 99999, 0), []), some (.bipush 6, 2, (0, 99999, 0), []), none, some (.if_icmp .le 9, 3, (0, 99999, 0), []), none, none, some (.aload_n 0, 1, (0, 99999, 0), []), some (.iconst (-1), 1, (0, 99999, 0), []), some (.invokevirtual 115, 3, (3, 129, 1), [5013, 5015, 29, 1007]), none, none, some (.ireturn, 1, (0, 99999, 0), [])],
  [some (.aload_n 0, 1, (0, 99999, 0), []), some (.iload_n 2, 1, (0, 99999, 0), []), some (.iconst 0, 1, (0, 99999, 0), []), some (.bipush 9, 2, (0, 99999, 0), []), none, some (.invokevirtual 128, 3, (3, 134, 3), [5057, 5059, 33, 1007]), none, none, some (.ifCond .eq 14, 3, (0, 99999, 0), []), none, none, some (.aload_n 0, 1, (0, 99999, 0), []), some (.iload_n 3, 1, (0, 99999, 0), []), some (.iconst 1, 1, (0, 99999, 0), []), some (.bipush 50, 2, (0, 99999, 0), []), none],
  [some (.invokevirtual 128, 3, (3, 134, 3), [5057, 5059, 33, 1007]), none, none, some (.ifCond .ne 10, 3, (0, 99999, 0), []), none, none, some (.aload_n 0, 1, (0, 99999, 0), []), some (.bipush (-6), 2, (0, 99999, 0), []), none, some (.invokevirtual 115, 3, (3, 129, 1), [5013, 5015, 29, 1007]), none, none, some (.ireturn, 1, (0, 99999, 0), []), some (.aload_n 0, 1, (0, 99999, 0), []), some (.getfield 105, 3, (1, 6, 0), [4097]), none],
  [none, some (.bipush 9, 2, (0, 99999, 0), []), none, some (.if_icmp .ne 12, 3, (0, 99999, 0), []), none, none, some (.aload_n 0, 1, (0, 99999, 0), []), some (.bipush (-7), 2, (0, 99999, 0), []), none, some (.invokevirtual 115, 3, (3, 129, 1), [5013, 5015, 29, 1007]), none, none, some (.goto 10, 3, (0, 99999, 0), []), none, none, some (.aload_n 0, 1, (0, 99999, 0), [])],
  [some (.iload_n 1, 1, (0, 99999, 0), []), some (.iload_n 2, 1, (0, 99999, 0), []), some (.iload_n 3, 1, (0, 99999, 0), []), some (.invokevirtual 132, 3, (3, 146, 3), [5061, 5063, 34, 1007]), none, none, some (.ireturn, 1, (0, 99999, 0), [])]])
def mX6_person : ab_D := (yX6_person, cX6_person, 4, some .int, 6, 3, false, [
  [some (.aload_n 0, 1, (0, 99999, 0), []), some (.iload_n 3, 1, (0, 99999, 0), []), some (.iconst 0, 1, (0, 99999, 0), []), some (.bipush 7, 2, (0, 99999, 0), []), none, some (.invokevirtual 128, 3, (3, 134, 3), [5057, 5059, 33, 1007]), none, none, some (.ifCond .ne 9, 3, (0, 99999, 0), []), none, none, some (.aload_n 0, 1, (0, 99999, 0), []), some (.iconst (-1), 1, (0, 99999, 0), []), some (.invokevirtual 115, 3, (3, 129, 1), [5013, 5015, 29, 1007]), none, none],
  [some (.ireturn, 1, (0, 99999, 0), []), some (.aload_n 0, 1, (0, 99999, 0), []), some (.iload_n 1, 1, (0, 99999, 0), []), some (.iconst 0, 1, (0, 99999, 0), []), some (.bipush 99, 2, (0, 99999, 0), []), none, some (.invokevirtual 128, 3, (3, 134, 3), [5057, 5059, 33, 1007]), none, none, some (.ifCond .eq 14, 3, (0, 99999, 0), []), none, none, some (.aload_n 0, 1, (0, 99999, 0), []), some (.iload_n 2, 1, (0, 99999, 0), []), some (.iconst 0, 1, (0, 99999, 0), []), some (.bipush 9, 2, (0, 99999, 0), [])],
  [none, some (.invokevirtual 128, 3, (3, 134, 3), [5057, 5059, 33, 1007]), none, none, some (.ifCond .ne 10, 3, (0, 99999, 0), []), none, none, some (.aload_n 0, 1, (0, 99999, 0), []), some (.bipush (-6), 2, (0, 99999, 0), []), none, some (.invokevirtual 115, 3, (3, 129, 1), [5013, 5015, 29, 1007]), none, none, some (.ireturn, 1, (0, 99999, 0), []), some (.aload_n 0, 1, (0, 99999, 0), []), some (.getfield 108, 3, (1, 6, 1), [4098])],
  [none, none, some (.bipush 6, 2, (0, 99999, 0), []), none, some (.if_icmp .ne 12, 3, (0, 99999, 0), []), none, none, some (.aload_n 0, 1, (0, 99999, 0), []), some (.bipush (-7), 2, (0, 99999, 0), []), none, some (.invokevirtual 115, 3, (3, 129, 1), [5013, 5015, 29, 1007]), none, none, some (.goto 10, 3, (0, 99999, 0), []), none, none],
  [some (.aload_n 0, 1, (0, 99999, 0), []), some (.iload_n 1, 1, (0, 99999, 0), []), some (.iload_n 2, 1, (0, 99999, 0), []), some (.iload_n 3, 1, (0, 99999, 0), []), some (.invokevirtual 136, 3, (3, 147, 3), [5069, 5071, 35, 1007]), none, none, some (.ireturn, 1, (0, 99999, 0), [])]])
def mX6_cost : ab_D := (yX6_cost, cX6_cost, 4, some .int, 6, 2, false, [
  [some (.aload_n 0, 1, (0, 99999, 0), []), some (.iload_n 1, 1, (0, 99999, 0), []), some (.iconst 0, 1, (0, 99999, 0), []), some (.bipush 7, 2, (0, 99999, 0), []), none, some (.invokevirtual 128, 3, (3, 134, 3), [5057, 5059, 33, 1007]), none, none, some (.ifCond .ne 9, 3, (0, 99999, 0), []), none, none, some (.aload_n 0, 1, (0, 99999, 0), []), some (.iconst (-1), 1, (0, 99999, 0), []), some (.invokevirtual 115, 3, (3, 129, 1), [5013, 5015, 29, 1007]), none, none],
  [some (.ireturn, 1, (0, 99999, 0), []), some (.aload_n 0, 1, (0, 99999, 0), []), some (.iload_n 2, 1, (0, 99999, 0), []), some (.iconst 1, 1, (0, 99999, 0), []), some (.bipush 60, 2, (0, 99999, 0), []), none, some (.invokevirtual 128, 3, (3, 134, 3), [5057, 5059, 33, 1007]), none, none, some (.ifCond .ne 10, 3, (0, 99999, 0), []), none, none, some (.aload_n 0, 1, (0, 99999, 0), []), some (.bipush (-6), 2, (0, 99999, 0), []), none, some (.invokevirtual 115, 3, (3, 129, 1), [5013, 5015, 29, 1007])],
  [none, none, some (.ireturn, 1, (0, 99999, 0), []), some (.aload_n 0, 1, (0, 99999, 0), []), some (.getfield 44, 3, (1, 6, 16), [4113]), none, none, some (.iload_n 1, 1, (0, 99999, 0), []), some (.iaload, 1, (0, 99999, 0), []), some (.istore_n 3, 1, (0, 99999, 0), []), some (.aload_n 0, 1, (0, 99999, 0), []), some (.getfield 44, 3, (1, 6, 16), [4113]), none, none, some (.iload_n 1, 1, (0, 99999, 0), []), some (.iload_n 2, 1, (0, 99999, 0), [])],
  [some (.iastore, 1, (0, 99999, 0), []), some (.iload_n 3, 1, (0, 99999, 0), []), some (.ireturn, 1, (0, 99999, 0), [])]])
def mX6_rule : ab_D := (yX6_rule, cX6_rule, 3, some .int, 6, 1, false, [
  [some (.aload_n 0, 1, (0, 99999, 0), []), some (.iload_n 1, 1, (0, 99999, 0), []), some (.iconst 0, 1, (0, 99999, 0), []), some (.iconst 1, 1, (0, 99999, 0), []), some (.invokevirtual 128, 3, (3, 134, 3), [5057, 5059, 33, 1007]), none, none, some (.ifCond .ne 10, 3, (0, 99999, 0), []), none, none, some (.aload_n 0, 1, (0, 99999, 0), []), some (.bipush (-6), 2, (0, 99999, 0), []), none, some (.invokevirtual 115, 3, (3, 129, 1), [5013, 5015, 29, 1007]), none, none],
  [some (.ireturn, 1, (0, 99999, 0), []), some (.aload_n 0, 1, (0, 99999, 0), []), some (.getfield 139, 3, (1, 6, 2), [4099]), none, none, some (.istore_n 2, 1, (0, 99999, 0), []), some (.aload_n 0, 1, (0, 99999, 0), []), some (.iload_n 1, 1, (0, 99999, 0), []), some (.putfield 139, 3, (1, 6, 2), [4099]), none, none, some (.iload_n 2, 1, (0, 99999, 0), []), some (.ireturn, 1, (0, 99999, 0), [])]])
def mX6_tell : ab_D := (yX6_tell, cX6_tell, 5, some .int, 6, 3, false, [
  [some (.aload_n 0, 1, (0, 99999, 0), []), some (.iload_n 1, 1, (0, 99999, 0), []), some (.invokevirtual 142, 3, (3, 133, 1), [5085, 5087, 36, 1007]), none, none, some (.ifCond .ne 9, 3, (0, 99999, 0), []), none, none, some (.aload_n 0, 1, (0, 99999, 0), []), some (.iconst (-1), 1, (0, 99999, 0), []), some (.invokevirtual 115, 3, (3, 129, 1), [5013, 5015, 29, 1007]), none, none, some (.ireturn, 1, (0, 99999, 0), []), some (.iload_n 2, 1, (0, 99999, 0), []), some (.ifCond .lt 38, 3, (0, 99999, 0), [])],
  [none, none, some (.iload_n 2, 1, (0, 99999, 0), []), some (.iconst 2, 1, (0, 99999, 0), []), some (.if_icmp .gt 33, 3, (0, 99999, 0), []), none, none, some (.aload_n 0, 1, (0, 99999, 0), []), some (.iload_n 3, 1, (0, 99999, 0), []), some (.iconst 0, 1, (0, 99999, 0), []), some (.iload_n 2, 1, (0, 99999, 0), []), some (.ifCond .ne 8, 3, (0, 99999, 0), []), none, none, some (.bipush 99, 2, (0, 99999, 0), []), none],
  [some (.goto 15, 3, (0, 99999, 0), []), none, none, some (.iload_n 2, 1, (0, 99999, 0), []), some (.iconst 1, 1, (0, 99999, 0), []), some (.if_icmp .ne 8, 3, (0, 99999, 0), []), none, none, some (.bipush 9, 2, (0, 99999, 0), []), none, some (.goto 5, 3, (0, 99999, 0), []), none, none, some (.bipush 7, 2, (0, 99999, 0), []), none, some (.invokevirtual 128, 3, (3, 134, 3), [5057, 5059, 33, 1007])],
  [none, none, some (.ifCond .ne 10, 3, (0, 99999, 0), []), none, none, some (.aload_n 0, 1, (0, 99999, 0), []), some (.bipush (-6), 2, (0, 99999, 0), []), none, some (.invokevirtual 115, 3, (3, 129, 1), [5013, 5015, 29, 1007]), none, none, some (.ireturn, 1, (0, 99999, 0), []), some (.iload_n 2, 1, (0, 99999, 0), []), some (.ifCond .ne 12, 3, (0, 99999, 0), []), none, none],
  [some (.aload_n 0, 1, (0, 99999, 0), []), some (.getfield 32, 3, (1, 6, 12), [4109]), none, none, some (.iload_n 1, 1, (0, 99999, 0), []), some (.iaload, 1, (0, 99999, 0), []), some (.goto 23, 3, (0, 99999, 0), []), none, none, some (.iload_n 2, 1, (0, 99999, 0), []), some (.iconst 1, 1, (0, 99999, 0), []), some (.if_icmp .ne 12, 3, (0, 99999, 0), []), none, none, some (.aload_n 0, 1, (0, 99999, 0), []), some (.getfield 35, 3, (1, 6, 13), [4110])],
  [none, none, some (.iload_n 1, 1, (0, 99999, 0), []), some (.iaload, 1, (0, 99999, 0), []), some (.goto 9, 3, (0, 99999, 0), []), none, none, some (.aload_n 0, 1, (0, 99999, 0), []), some (.getfield 38, 3, (1, 6, 14), [4111]), none, none, some (.iload_n 1, 1, (0, 99999, 0), []), some (.iaload, 1, (0, 99999, 0), []), some (.istore 4, 2, (0, 99999, 0), []), none, some (.iload_n 2, 1, (0, 99999, 0), [])],
  [some (.ifCond .ne 13, 3, (0, 99999, 0), []), none, none, some (.aload_n 0, 1, (0, 99999, 0), []), some (.getfield 32, 3, (1, 6, 12), [4109]), none, none, some (.iload_n 1, 1, (0, 99999, 0), []), some (.iload_n 3, 1, (0, 99999, 0), []), some (.iastore, 1, (0, 99999, 0), []), some (.goto 25, 3, (0, 99999, 0), []), none, none, some (.iload_n 2, 1, (0, 99999, 0), []), some (.iconst 1, 1, (0, 99999, 0), []), some (.if_icmp .ne 13, 3, (0, 99999, 0), [])],
  [none, none, some (.aload_n 0, 1, (0, 99999, 0), []), some (.getfield 35, 3, (1, 6, 13), [4110]), none, none, some (.iload_n 1, 1, (0, 99999, 0), []), some (.iload_n 3, 1, (0, 99999, 0), []), some (.iastore, 1, (0, 99999, 0), []), some (.goto 10, 3, (0, 99999, 0), []), none, none, some (.aload_n 0, 1, (0, 99999, 0), []), some (.getfield 38, 3, (1, 6, 14), [4111]), none, none],
  [some (.iload_n 1, 1, (0, 99999, 0), []), some (.iload_n 3, 1, (0, 99999, 0), []), some (.iastore, 1, (0, 99999, 0), []), some (.iload 4, 2, (0, 99999, 0), []), none, some (.ireturn, 1, (0, 99999, 0), [])]])
def mX6_piecesOf : ab_D := (yX6_piecesOf, cX6_piecesOf, 4, some .int, 6, 1, false, [
  [some (.iconst 0, 1, (0, 99999, 0), []), some (.istore_n 2, 1, (0, 99999, 0), []), some (.iconst 0, 1, (0, 99999, 0), []), some (.istore_n 3, 1, (0, 99999, 0), []), some (.iload_n 3, 1, (0, 99999, 0), []), some (.aload_n 0, 1, (0, 99999, 0), []), some (.getfield 105, 3, (1, 6, 0), [4097]), none, none, some (.if_icmp .ge 25, 3, (0, 99999, 0), []), none, none, some (.aload_n 0, 1, (0, 99999, 0), []), some (.getfield 29, 3, (1, 6, 11), [4108]), none, none],
  [some (.iload_n 3, 1, (0, 99999, 0), []), some (.iaload, 1, (0, 99999, 0), []), some (.iload_n 1, 1, (0, 99999, 0), []), some (.if_icmp .ne 9, 3, (0, 99999, 0), []), none, none, some (.iload_n 2, 1, (0, 99999, 0), []), some (.iconst 1, 1, (0, 99999, 0), []), some (.iload_n 3, 1, (0, 99999, 0), []), some (.ishl, 1, (0, 99999, 0), []), some (.iadd, 1, (0, 99999, 0), []), some (.istore_n 2, 1, (0, 99999, 0), []), some (.iinc 3 1, 3, (0, 99999, 0), []), none, none, some (.goto (-27), 3, (0, 99999, 0), [])],
  [none, none, some (.iload_n 2, 1, (0, 99999, 0), []), some (.ireturn, 1, (0, 99999, 0), [])]])
def mX6_pieceOf : ab_D := (yX6_pieceOf, cX6_pieceOf, 3, some .int, 6, 2, false, [
  [some (.aload_n 0, 1, (0, 99999, 0), []), some (.iload_n 1, 1, (0, 99999, 0), []), some (.invokevirtual 119, 3, (3, 132, 1), [5033, 5035, 30, 1007]), none, none, some (.ifCond .ne 10, 3, (0, 99999, 0), []), none, none, some (.aload_n 0, 1, (0, 99999, 0), []), some (.bipush (-5), 2, (0, 99999, 0), []), none, some (.invokevirtual 115, 3, (3, 129, 1), [5013, 5015, 29, 1007]), none, none, some (.ireturn, 1, (0, 99999, 0), []), some (.iload_n 2, 1, (0, 99999, 0), [])],
  [some (.tableswitch 80 0 5 #[40, 47, 54, 61, 67, 73], 40, (0, 99999, 0), []), none, none, none, none, none, none, none, none, none, none, none, none, none, none, none],
  [none, none, none, none, none, none, none, none, none, none, none, none, none, none, none, none],
  [none, none, none, none, none, none, none, none, some (.aload_n 0, 1, (0, 99999, 0), []), some (.getfield 20, 3, (1, 6, 8), [4105]), none, none, some (.iload_n 1, 1, (0, 99999, 0), []), some (.iaload, 1, (0, 99999, 0), []), some (.ireturn, 1, (0, 99999, 0), []), some (.aload_n 0, 1, (0, 99999, 0), [])],
  [some (.getfield 23, 3, (1, 6, 9), [4106]), none, none, some (.iload_n 1, 1, (0, 99999, 0), []), some (.iaload, 1, (0, 99999, 0), []), some (.ireturn, 1, (0, 99999, 0), []), some (.aload_n 0, 1, (0, 99999, 0), []), some (.getfield 26, 3, (1, 6, 10), [4107]), none, none, some (.iload_n 1, 1, (0, 99999, 0), []), some (.iaload, 1, (0, 99999, 0), []), some (.ireturn, 1, (0, 99999, 0), []), some (.aload_n 0, 1, (0, 99999, 0), []), some (.iload_n 1, 1, (0, 99999, 0), []), some (.invokevirtual 125, 3, (3, 144, 1), [5049, 5051, 32, 1007])],
  [none, none, some (.ireturn, 1, (0, 99999, 0), []), some (.aload_n 0, 1, (0, 99999, 0), []), some (.iload_n 1, 1, (0, 99999, 0), []), some (.invokevirtual 122, 3, (3, 145, 1), [5045, 5047, 31, 1007]), none, none, some (.ireturn, 1, (0, 99999, 0), []), some (.aload_n 0, 1, (0, 99999, 0), []), some (.getfield 29, 3, (1, 6, 11), [4108]), none, none, some (.iload_n 1, 1, (0, 99999, 0), []), some (.iaload, 1, (0, 99999, 0), []), some (.ireturn, 1, (0, 99999, 0), [])],
  [some (.aload_n 0, 1, (0, 99999, 0), []), some (.bipush (-5), 2, (0, 99999, 0), []), none, some (.invokevirtual 115, 3, (3, 129, 1), [5013, 5015, 29, 1007]), none, none, some (.ireturn, 1, (0, 99999, 0), [])]])
def mX6_personOf : ab_D := (yX6_personOf, cX6_personOf, 3, some .int, 6, 2, false, [
  [some (.aload_n 0, 1, (0, 99999, 0), []), some (.iload_n 1, 1, (0, 99999, 0), []), some (.invokevirtual 142, 3, (3, 133, 1), [5085, 5087, 36, 1007]), none, none, some (.ifCond .ne 10, 3, (0, 99999, 0), []), none, none, some (.aload_n 0, 1, (0, 99999, 0), []), some (.bipush (-5), 2, (0, 99999, 0), []), none, some (.invokevirtual 115, 3, (3, 129, 1), [5013, 5015, 29, 1007]), none, none, some (.ireturn, 1, (0, 99999, 0), []), some (.iload_n 2, 1, (0, 99999, 0), [])],
  [some (.tableswitch 70 0 4 #[36, 43, 50, 57, 64], 36, (0, 99999, 0), []), none, none, none, none, none, none, none, none, none, none, none, none, none, none, none],
  [none, none, none, none, none, none, none, none, none, none, none, none, none, none, none, none],
  [none, none, none, none, some (.aload_n 0, 1, (0, 99999, 0), []), some (.getfield 32, 3, (1, 6, 12), [4109]), none, none, some (.iload_n 1, 1, (0, 99999, 0), []), some (.iaload, 1, (0, 99999, 0), []), some (.ireturn, 1, (0, 99999, 0), []), some (.aload_n 0, 1, (0, 99999, 0), []), some (.getfield 35, 3, (1, 6, 13), [4110]), none, none, some (.iload_n 1, 1, (0, 99999, 0), [])],
  [some (.iaload, 1, (0, 99999, 0), []), some (.ireturn, 1, (0, 99999, 0), []), some (.aload_n 0, 1, (0, 99999, 0), []), some (.getfield 38, 3, (1, 6, 14), [4111]), none, none, some (.iload_n 1, 1, (0, 99999, 0), []), some (.iaload, 1, (0, 99999, 0), []), some (.ireturn, 1, (0, 99999, 0), []), some (.aload_n 0, 1, (0, 99999, 0), []), some (.getfield 41, 3, (1, 6, 15), [4112]), none, none, some (.iload_n 1, 1, (0, 99999, 0), []), some (.iaload, 1, (0, 99999, 0), []), some (.ireturn, 1, (0, 99999, 0), [])],
  [some (.aload_n 0, 1, (0, 99999, 0), []), some (.iload_n 1, 1, (0, 99999, 0), []), some (.invokevirtual 145, 3, (3, 153, 1), [5097, 5099, 37, 1007]), none, none, some (.ireturn, 1, (0, 99999, 0), []), some (.aload_n 0, 1, (0, 99999, 0), []), some (.bipush (-5), 2, (0, 99999, 0), []), none, some (.invokevirtual 115, 3, (3, 129, 1), [5013, 5015, 29, 1007]), none, none, some (.ireturn, 1, (0, 99999, 0), [])]])
def mX6_wrong : ab_D := (yX6_wrong, cX6_wrong, 2, some .boolean, 6, 1, false, [
  [some (.aload_n 0, 1, (0, 99999, 0), []), some (.iload_n 1, 1, (0, 99999, 0), []), some (.putfield 148, 3, (1, 6, 31), [4128]), none, none, some (.iconst 0, 1, (0, 99999, 0), []), some (.ireturn, 1, (0, 99999, 0), [])]])
def mX6_stands : ab_D := (yX6_stands, cX6_stands, 4, some .boolean, 6, 1, false, [
  [some (.iconst 0, 1, (0, 99999, 0), []), some (.istore_n 2, 1, (0, 99999, 0), []), some (.iconst 0, 1, (0, 99999, 0), []), some (.istore_n 3, 1, (0, 99999, 0), []), some (.iload_n 3, 1, (0, 99999, 0), []), some (.iload_n 1, 1, (0, 99999, 0), []), some (.if_icmp .ge 26, 3, (0, 99999, 0), []), none, none, some (.iload_n 3, 1, (0, 99999, 0), []), some (.aload_n 0, 1, (0, 99999, 0), []), some (.getfield 66, 3, (1, 6, 23), [4120]), none, none, some (.iload_n 2, 1, (0, 99999, 0), []), some (.iaload, 1, (0, 99999, 0), [])],
  [some (.ifCond .ne 7, 3, (0, 99999, 0), []), none, none, some (.iconst 1, 1, (0, 99999, 0), []), some (.goto 4, 3, (0, 99999, 0), []), none, none, some (.iconst 0, 1, (0, 99999, 0), []), some (.iadd, 1, (0, 99999, 0), []), some (.istore_n 3, 1, (0, 99999, 0), []), some (.iinc 2 1, 3, (0, 99999, 0), []), none, none, some (.goto (-25), 3, (0, 99999, 0), []), none, none],
  [some (.aload_n 0, 1, (0, 99999, 0), []), some (.getfield 151, 3, (1, 6, 28), [4125]), none, none, some (.istore_n 3, 1, (0, 99999, 0), []), some (.aload_n 0, 1, (0, 99999, 0), []), some (.getfield 66, 3, (1, 6, 23), [4120]), none, none, some (.iload_n 2, 1, (0, 99999, 0), []), some (.iaload, 1, (0, 99999, 0), []), some (.bipush 32, 2, (0, 99999, 0), []), none, some (.if_icmp .le 41, 3, (0, 99999, 0), []), none, none],
  [some (.iload_n 3, 1, (0, 99999, 0), []), some (.aload_n 0, 1, (0, 99999, 0), []), some (.getfield 154, 3, (1, 6, 29), [4126]), none, none, some (.if_icmp .ge 33, 3, (0, 99999, 0), []), none, none, some (.aload_n 0, 1, (0, 99999, 0), []), some (.getfield 59, 3, (1, 6, 21), [4118]), none, none, some (.aload_n 0, 1, (0, 99999, 0), []), some (.getfield 157, 3, (1, 6, 27), [4124]), none, none],
  [some (.iload_n 3, 1, (0, 99999, 0), []), some (.iadd, 1, (0, 99999, 0), []), some (.laload, 1, (0, 99999, 0), []), some (.l2i, 1, (0, 99999, 0), []), some (.aload_n 0, 1, (0, 99999, 0), []), some (.getfield 66, 3, (1, 6, 23), [4120]), none, none, some (.iload_n 2, 1, (0, 99999, 0), []), some (.iaload, 1, (0, 99999, 0), []), some (.if_icmp .ne 12, 3, (0, 99999, 0), []), none, none, some (.iinc 3 1, 3, (0, 99999, 0), []), none, none],
  [some (.iinc 2 1, 3, (0, 99999, 0), []), none, none, some (.goto (-46), 3, (0, 99999, 0), []), none, none, some (.aload_n 0, 1, (0, 99999, 0), []), some (.getfield 66, 3, (1, 6, 23), [4120]), none, none, some (.iload_n 2, 1, (0, 99999, 0), []), some (.iaload, 1, (0, 99999, 0), []), some (.bipush 32, 2, (0, 99999, 0), []), none, some (.if_icmp .gt 7, 3, (0, 99999, 0), []), none],
  [none, some (.iconst 1, 1, (0, 99999, 0), []), some (.goto 4, 3, (0, 99999, 0), []), none, none, some (.iconst 0, 1, (0, 99999, 0), []), some (.ireturn, 1, (0, 99999, 0), [])]])
def mX6_word : ab_D := (yX6_word, cX6_word, 6, some .int, 6, 0, false, [
  [some (.iconst 0, 1, (0, 99999, 0), []), some (.istore_n 1, 1, (0, 99999, 0), []), some (.aload_n 0, 1, (0, 99999, 0), []), some (.getfield 151, 3, (1, 6, 28), [4125]), none, none, some (.istore_n 2, 1, (0, 99999, 0), []), some (.iconst 0, 1, (0, 99999, 0), []), some (.istore_n 3, 1, (0, 99999, 0), []), some (.iload_n 3, 1, (0, 99999, 0), []), some (.bipush 7, 2, (0, 99999, 0), []), none, some (.if_icmp .ge 118, 3, (0, 99999, 0), []), none, none, some (.aload_n 0, 1, (0, 99999, 0), [])],
  [some (.getfield 151, 3, (1, 6, 28), [4125]), none, none, some (.istore 4, 2, (0, 99999, 0), []), none, some (.iload_n 1, 1, (0, 99999, 0), []), some (.istore 5, 2, (0, 99999, 0), []), none, some (.aload_n 0, 1, (0, 99999, 0), []), some (.getfield 66, 3, (1, 6, 23), [4120]), none, none, some (.iload 5, 2, (0, 99999, 0), []), none, some (.iaload, 1, (0, 99999, 0), []), some (.ifCond .eq 44, 3, (0, 99999, 0), [])],
  [none, none, some (.iload 4, 2, (0, 99999, 0), []), none, some (.aload_n 0, 1, (0, 99999, 0), []), some (.getfield 154, 3, (1, 6, 29), [4126]), none, none, some (.if_icmp .ge 35, 3, (0, 99999, 0), []), none, none, some (.aload_n 0, 1, (0, 99999, 0), []), some (.getfield 59, 3, (1, 6, 21), [4118]), none, none, some (.aload_n 0, 1, (0, 99999, 0), [])],
  [some (.getfield 157, 3, (1, 6, 27), [4124]), none, none, some (.iload 4, 2, (0, 99999, 0), []), none, some (.iadd, 1, (0, 99999, 0), []), some (.laload, 1, (0, 99999, 0), []), some (.l2i, 1, (0, 99999, 0), []), some (.aload_n 0, 1, (0, 99999, 0), []), some (.getfield 66, 3, (1, 6, 23), [4120]), none, none, some (.iload 5, 2, (0, 99999, 0), []), none, some (.iaload, 1, (0, 99999, 0), []), some (.if_icmp .ne 12, 3, (0, 99999, 0), [])],
  [none, none, some (.iinc 4 1, 3, (0, 99999, 0), []), none, none, some (.iinc 5 1, 3, (0, 99999, 0), []), none, none, some (.goto (-48), 3, (0, 99999, 0), []), none, none, some (.aload_n 0, 1, (0, 99999, 0), []), some (.getfield 66, 3, (1, 6, 23), [4120]), none, none, some (.iload 5, 2, (0, 99999, 0), [])],
  [none, some (.iaload, 1, (0, 99999, 0), []), some (.ifCond .ne 11, 3, (0, 99999, 0), []), none, none, some (.aload_n 0, 1, (0, 99999, 0), []), some (.iload 4, 2, (0, 99999, 0), []), none, some (.putfield 151, 3, (1, 6, 28), [4125]), none, none, some (.iload_n 3, 1, (0, 99999, 0), []), some (.ireturn, 1, (0, 99999, 0), []), some (.iload 4, 2, (0, 99999, 0), []), none, some (.iload_n 2, 1, (0, 99999, 0), [])],
  [some (.if_icmp .le 8, 3, (0, 99999, 0), []), none, none, some (.iload 4, 2, (0, 99999, 0), []), none, some (.goto 4, 3, (0, 99999, 0), []), none, none, some (.iload_n 2, 1, (0, 99999, 0), []), some (.istore_n 2, 1, (0, 99999, 0), []), some (.aload_n 0, 1, (0, 99999, 0), []), some (.getfield 66, 3, (1, 6, 23), [4120]), none, none, some (.iload_n 1, 1, (0, 99999, 0), []), some (.iaload, 1, (0, 99999, 0), [])],
  [some (.ifCond .eq 9, 3, (0, 99999, 0), []), none, none, some (.iinc 1 1, 3, (0, 99999, 0), []), none, none, some (.goto (-12), 3, (0, 99999, 0), []), none, none, some (.iinc 1 1, 3, (0, 99999, 0), []), none, none, some (.iinc 3 1, 3, (0, 99999, 0), []), none, none, some (.goto (-118), 3, (0, 99999, 0), [])],
  [none, none, some (.aload_n 0, 1, (0, 99999, 0), []), some (.iload_n 2, 1, (0, 99999, 0), []), some (.putfield 148, 3, (1, 6, 31), [4128]), none, none, some (.iconst (-1), 1, (0, 99999, 0), []), some (.ireturn, 1, (0, 99999, 0), [])]])
def mX6_isDigit : ab_D := (yX6_isDigit, cX6_isDigit, 1, some .boolean, 6, 0, false, [
  [some (.aload_n 0, 1, (0, 99999, 0), []), some (.getfield 151, 3, (1, 6, 28), [4125]), none, none, some (.aload_n 0, 1, (0, 99999, 0), []), some (.getfield 154, 3, (1, 6, 29), [4126]), none, none, some (.if_icmp .ge 47, 3, (0, 99999, 0), []), none, none, some (.aload_n 0, 1, (0, 99999, 0), []), some (.getfield 59, 3, (1, 6, 21), [4118]), none, none, some (.aload_n 0, 1, (0, 99999, 0), [])],
  [some (.getfield 157, 3, (1, 6, 27), [4124]), none, none, some (.aload_n 0, 1, (0, 99999, 0), []), some (.getfield 151, 3, (1, 6, 28), [4125]), none, none, some (.iadd, 1, (0, 99999, 0), []), some (.laload, 1, (0, 99999, 0), []), some (.l2i, 1, (0, 99999, 0), []), some (.bipush 48, 2, (0, 99999, 0), []), none, some (.if_icmp .lt 27, 3, (0, 99999, 0), []), none, none, some (.aload_n 0, 1, (0, 99999, 0), [])],
  [some (.getfield 59, 3, (1, 6, 21), [4118]), none, none, some (.aload_n 0, 1, (0, 99999, 0), []), some (.getfield 157, 3, (1, 6, 27), [4124]), none, none, some (.aload_n 0, 1, (0, 99999, 0), []), some (.getfield 151, 3, (1, 6, 28), [4125]), none, none, some (.iadd, 1, (0, 99999, 0), []), some (.laload, 1, (0, 99999, 0), []), some (.l2i, 1, (0, 99999, 0), []), some (.bipush 57, 2, (0, 99999, 0), []), none],
  [some (.if_icmp .gt 7, 3, (0, 99999, 0), []), none, none, some (.iconst 1, 1, (0, 99999, 0), []), some (.goto 4, 3, (0, 99999, 0), []), none, none, some (.iconst 0, 1, (0, 99999, 0), []), some (.ireturn, 1, (0, 99999, 0), [])]])
def mX6_reads : ab_D := (yX6_reads, cX6_reads, 2, some .boolean, 6, 0, false, [
  [some (.aload_n 0, 1, (0, 99999, 0), []), some (.iconst 0, 1, (0, 99999, 0), []), some (.putfield 160, 3, (1, 6, 30), [4127]), none, none, some (.aload_n 0, 1, (0, 99999, 0), []), some (.invokevirtual 163, 3, (3, 159, 0), [5137, 5139, 46, 1007]), none, none, some (.ifCond .ne 12, 3, (0, 99999, 0), []), none, none, some (.aload_n 0, 1, (0, 99999, 0), []), some (.aload_n 0, 1, (0, 99999, 0), []), some (.getfield 151, 3, (1, 6, 28), [4125]), none],
  [none, some (.invokevirtual 167, 3, (3, 156, 1), [5125, 5127, 43, 1007]), none, none, some (.ireturn, 1, (0, 99999, 0), []), some (.iconst 0, 1, (0, 99999, 0), []), some (.istore_n 1, 1, (0, 99999, 0), []), some (.iload_n 1, 1, (0, 99999, 0), []), some (.iconst 2, 1, (0, 99999, 0), []), some (.if_icmp .ge 56, 3, (0, 99999, 0), []), none, none, some (.aload_n 0, 1, (0, 99999, 0), []), some (.invokevirtual 163, 3, (3, 159, 0), [5137, 5139, 46, 1007]), none, none],
  [some (.ifCond .eq 49, 3, (0, 99999, 0), []), none, none, some (.aload_n 0, 1, (0, 99999, 0), []), some (.bipush 10, 2, (0, 99999, 0), []), none, some (.aload_n 0, 1, (0, 99999, 0), []), some (.getfield 160, 3, (1, 6, 30), [4127]), none, none, some (.imul, 1, (0, 99999, 0), []), some (.aload_n 0, 1, (0, 99999, 0), []), some (.getfield 59, 3, (1, 6, 21), [4118]), none, none, some (.aload_n 0, 1, (0, 99999, 0), [])],
  [some (.getfield 157, 3, (1, 6, 27), [4124]), none, none, some (.aload_n 0, 1, (0, 99999, 0), []), some (.getfield 151, 3, (1, 6, 28), [4125]), none, none, some (.iadd, 1, (0, 99999, 0), []), some (.laload, 1, (0, 99999, 0), []), some (.l2i, 1, (0, 99999, 0), []), some (.iadd, 1, (0, 99999, 0), []), some (.bipush 48, 2, (0, 99999, 0), []), none, some (.isub, 1, (0, 99999, 0), []), some (.putfield 160, 3, (1, 6, 30), [4127]), none],
  [none, some (.aload_n 0, 1, (0, 99999, 0), []), some (.dup, 1, (0, 99999, 0), []), some (.getfield 151, 3, (1, 6, 28), [4125]), none, none, some (.iconst 1, 1, (0, 99999, 0), []), some (.iadd, 1, (0, 99999, 0), []), some (.putfield 151, 3, (1, 6, 28), [4125]), none, none, some (.iinc 1 1, 3, (0, 99999, 0), []), none, none, some (.goto (-55), 3, (0, 99999, 0), []), none],
  [none, some (.iconst 1, 1, (0, 99999, 0), []), some (.ireturn, 1, (0, 99999, 0), [])]])
def mX6_isSo : ab_D := (yX6_isSo, cX6_isSo, 3, some .boolean, 6, 2, false, [
  [some (.iload_n 1, 1, (0, 99999, 0), []), some (.iconst 3, 1, (0, 99999, 0), []), some (.if_icmp .ge 46, 3, (0, 99999, 0), []), none, none, some (.aload_n 0, 1, (0, 99999, 0), []), some (.aload_n 0, 1, (0, 99999, 0), []), some (.getfield 160, 3, (1, 6, 30), [4127]), none, none, some (.iload_n 1, 1, (0, 99999, 0), []), some (.ifCond .ne 8, 3, (0, 99999, 0), []), none, none, some (.iload_n 2, 1, (0, 99999, 0), []), some (.iconst 2, 1, (0, 99999, 0), [])],
  [some (.if_icmp .eq 13, 3, (0, 99999, 0), []), none, none, some (.iload_n 1, 1, (0, 99999, 0), []), some (.iconst 2, 1, (0, 99999, 0), []), some (.if_icmp .ne 12, 3, (0, 99999, 0), []), none, none, some (.iload_n 2, 1, (0, 99999, 0), []), some (.iconst 1, 1, (0, 99999, 0), []), some (.if_icmp .ne 7, 3, (0, 99999, 0), []), none, none, some (.iconst 1, 1, (0, 99999, 0), []), some (.goto 4, 3, (0, 99999, 0), []), none],
  [none, some (.iconst 0, 1, (0, 99999, 0), []), some (.aload_n 0, 1, (0, 99999, 0), []), some (.getfield 72, 3, (1, 6, 25), [4122]), none, none, some (.iconst 3, 1, (0, 99999, 0), []), some (.iload_n 1, 1, (0, 99999, 0), []), some (.imul, 1, (0, 99999, 0), []), some (.iload_n 2, 1, (0, 99999, 0), []), some (.iadd, 1, (0, 99999, 0), []), some (.iaload, 1, (0, 99999, 0), []), some (.invokevirtual 128, 3, (3, 134, 3), [5057, 5059, 33, 1007]), none, none, some (.ireturn, 1, (0, 99999, 0), [])],
  [some (.iload_n 1, 1, (0, 99999, 0), []), some (.iconst 3, 1, (0, 99999, 0), []), some (.if_icmp .ne 25, 3, (0, 99999, 0), []), none, none, some (.iload_n 2, 1, (0, 99999, 0), []), some (.iconst 1, 1, (0, 99999, 0), []), some (.if_icmp .ne 20, 3, (0, 99999, 0), []), none, none, some (.aload_n 0, 1, (0, 99999, 0), []), some (.getfield 160, 3, (1, 6, 30), [4127]), none, none, some (.aload_n 0, 1, (0, 99999, 0), []), some (.getfield 108, 3, (1, 6, 1), [4098])],
  [none, none, some (.if_icmp .ge 7, 3, (0, 99999, 0), []), none, none, some (.iconst 1, 1, (0, 99999, 0), []), some (.goto 4, 3, (0, 99999, 0), []), none, none, some (.iconst 0, 1, (0, 99999, 0), []), some (.ireturn, 1, (0, 99999, 0), []), some (.aload_n 0, 1, (0, 99999, 0), []), some (.getfield 160, 3, (1, 6, 30), [4127]), none, none, some (.aload_n 0, 1, (0, 99999, 0), [])],
  [some (.getfield 105, 3, (1, 6, 0), [4097]), none, none, some (.if_icmp .ge 39, 3, (0, 99999, 0), []), none, none, some (.aload_n 0, 1, (0, 99999, 0), []), some (.getfield 29, 3, (1, 6, 11), [4108]), none, none, some (.aload_n 0, 1, (0, 99999, 0), []), some (.getfield 160, 3, (1, 6, 30), [4127]), none, none, some (.iaload, 1, (0, 99999, 0), []), some (.bipush 99, 2, (0, 99999, 0), [])],
  [none, some (.if_icmp .ne 7, 3, (0, 99999, 0), []), none, none, some (.iconst 1, 1, (0, 99999, 0), []), some (.goto 4, 3, (0, 99999, 0), []), none, none, some (.iconst 0, 1, (0, 99999, 0), []), some (.iload_n 1, 1, (0, 99999, 0), []), some (.iconst 3, 1, (0, 99999, 0), []), some (.if_icmp .ne 7, 3, (0, 99999, 0), []), none, none, some (.iconst 1, 1, (0, 99999, 0), []), some (.goto 4, 3, (0, 99999, 0), [])],
  [none, none, some (.iconst 0, 1, (0, 99999, 0), []), some (.if_icmp .ne 7, 3, (0, 99999, 0), []), none, none, some (.iconst 1, 1, (0, 99999, 0), []), some (.goto 4, 3, (0, 99999, 0), []), none, none, some (.iconst 0, 1, (0, 99999, 0), []), some (.ireturn, 1, (0, 99999, 0), [])]])
def mX6_item : ab_D := (yX6_item, cX6_item, 4, some .boolean, 6, 0, false, [
  [some (.aload_n 0, 1, (0, 99999, 0), []), some (.iconst 0, 1, (0, 99999, 0), []), some (.invokevirtual 170, 3, (3, 157, 1), [5121, 5123, 42, 1007]), none, none, some (.ifCond .eq 12, 3, (0, 99999, 0), []), none, none, some (.aload_n 0, 1, (0, 99999, 0), []), some (.getfield 105, 3, (1, 6, 0), [4097]), none, none, some (.bipush 9, 2, (0, 99999, 0), []), none, some (.if_icmp .eq 20, 3, (0, 99999, 0), []), none],
  [none, some (.aload_n 0, 1, (0, 99999, 0), []), some (.iconst 1, 1, (0, 99999, 0), []), some (.invokevirtual 170, 3, (3, 157, 1), [5121, 5123, 42, 1007]), none, none, some (.ifCond .eq 21, 3, (0, 99999, 0), []), none, none, some (.aload_n 0, 1, (0, 99999, 0), []), some (.getfield 108, 3, (1, 6, 1), [4098]), none, none, some (.bipush 6, 2, (0, 99999, 0), []), none, some (.if_icmp .ne 12, 3, (0, 99999, 0), [])],
  [none, none, some (.aload_n 0, 1, (0, 99999, 0), []), some (.aload_n 0, 1, (0, 99999, 0), []), some (.getfield 151, 3, (1, 6, 28), [4125]), none, none, some (.invokevirtual 167, 3, (3, 156, 1), [5125, 5127, 43, 1007]), none, none, some (.ireturn, 1, (0, 99999, 0), []), some (.aload_n 0, 1, (0, 99999, 0), []), some (.invokevirtual 173, 3, (3, 158, 0), [5129, 5131, 44, 1007]), none, none, some (.istore_n 1, 1, (0, 99999, 0), [])],
  [some (.iload_n 1, 1, (0, 99999, 0), []), some (.iconst (-1), 1, (0, 99999, 0), []), some (.if_icmp .ne 5, 3, (0, 99999, 0), []), none, none, some (.iconst 0, 1, (0, 99999, 0), []), some (.ireturn, 1, (0, 99999, 0), []), some (.iconst 0, 1, (0, 99999, 0), []), some (.istore_n 2, 1, (0, 99999, 0), []), some (.iload_n 2, 1, (0, 99999, 0), []), some (.aload_n 0, 1, (0, 99999, 0), []), some (.getfield 69, 3, (1, 6, 24), [4121]), none, none, some (.iload_n 1, 1, (0, 99999, 0), []), some (.iaload, 1, (0, 99999, 0), [])],
  [some (.if_icmp .ge 102, 3, (0, 99999, 0), []), none, none, some (.iload_n 2, 1, (0, 99999, 0), []), some (.ifCond .le 53, 3, (0, 99999, 0), []), none, none, some (.aload_n 0, 1, (0, 99999, 0), []), some (.getfield 151, 3, (1, 6, 28), [4125]), none, none, some (.aload_n 0, 1, (0, 99999, 0), []), some (.getfield 154, 3, (1, 6, 29), [4126]), none, none, some (.if_icmp .ge 23, 3, (0, 99999, 0), [])],
  [none, none, some (.aload_n 0, 1, (0, 99999, 0), []), some (.getfield 59, 3, (1, 6, 21), [4118]), none, none, some (.aload_n 0, 1, (0, 99999, 0), []), some (.getfield 157, 3, (1, 6, 27), [4124]), none, none, some (.aload_n 0, 1, (0, 99999, 0), []), some (.getfield 151, 3, (1, 6, 28), [4125]), none, none, some (.iadd, 1, (0, 99999, 0), []), some (.laload, 1, (0, 99999, 0), [])],
  [some (.l2i, 1, (0, 99999, 0), []), some (.bipush 32, 2, (0, 99999, 0), []), none, some (.if_icmp .eq 12, 3, (0, 99999, 0), []), none, none, some (.aload_n 0, 1, (0, 99999, 0), []), some (.aload_n 0, 1, (0, 99999, 0), []), some (.getfield 151, 3, (1, 6, 28), [4125]), none, none, some (.invokevirtual 167, 3, (3, 156, 1), [5125, 5127, 43, 1007]), none, none, some (.ireturn, 1, (0, 99999, 0), []), some (.aload_n 0, 1, (0, 99999, 0), [])],
  [some (.dup, 1, (0, 99999, 0), []), some (.getfield 151, 3, (1, 6, 28), [4125]), none, none, some (.iconst 1, 1, (0, 99999, 0), []), some (.iadd, 1, (0, 99999, 0), []), some (.putfield 151, 3, (1, 6, 28), [4125]), none, none, some (.aload_n 0, 1, (0, 99999, 0), []), some (.getfield 151, 3, (1, 6, 28), [4125]), none, none, some (.istore_n 3, 1, (0, 99999, 0), []), some (.aload_n 0, 1, (0, 99999, 0), []), some (.invokevirtual 177, 3, (3, 160, 0), [5133, 5135, 45, 1007])],
  [none, none, some (.ifCond .ne 5, 3, (0, 99999, 0), []), none, none, some (.iconst 0, 1, (0, 99999, 0), []), some (.ireturn, 1, (0, 99999, 0), []), some (.aload_n 0, 1, (0, 99999, 0), []), some (.iload_n 1, 1, (0, 99999, 0), []), some (.iload_n 2, 1, (0, 99999, 0), []), some (.invokevirtual 180, 3, (3, 161, 2), [5141, 5143, 47, 1007]), none, none, some (.ifCond .ne 9, 3, (0, 99999, 0), []), none, none],
  [some (.aload_n 0, 1, (0, 99999, 0), []), some (.iload_n 3, 1, (0, 99999, 0), []), some (.invokevirtual 167, 3, (3, 156, 1), [5125, 5127, 43, 1007]), none, none, some (.ireturn, 1, (0, 99999, 0), []), some (.aload_n 0, 1, (0, 99999, 0), []), some (.getfield 75, 3, (1, 6, 26), [4123]), none, none, some (.iload_n 2, 1, (0, 99999, 0), []), some (.aload_n 0, 1, (0, 99999, 0), []), some (.getfield 160, 3, (1, 6, 30), [4127]), none, none, some (.iastore, 1, (0, 99999, 0), [])],
  [some (.iinc 2 1, 3, (0, 99999, 0), []), none, none, some (.goto (-106), 3, (0, 99999, 0), []), none, none, some (.iload_n 1, 1, (0, 99999, 0), []), some (.tableswitch 141 0 4 #[33, 59, 85, 105, 125], 33, (0, 99999, 0), []), none, none, none, none, none, none, none, none],
  [none, none, none, none, none, none, none, none, none, none, none, none, none, none, none, none],
  [none, none, none, none, none, none, none, none, some (.aload_n 0, 1, (0, 99999, 0), []), some (.aload_n 0, 1, (0, 99999, 0), []), some (.getfield 75, 3, (1, 6, 26), [4123]), none, none, some (.iconst 0, 1, (0, 99999, 0), []), some (.iaload, 1, (0, 99999, 0), []), some (.aload_n 0, 1, (0, 99999, 0), [])],
  [some (.getfield 75, 3, (1, 6, 26), [4123]), none, none, some (.iconst 1, 1, (0, 99999, 0), []), some (.iaload, 1, (0, 99999, 0), []), some (.aload_n 0, 1, (0, 99999, 0), []), some (.getfield 75, 3, (1, 6, 26), [4123]), none, none, some (.iconst 2, 1, (0, 99999, 0), []), some (.iaload, 1, (0, 99999, 0), []), some (.invokevirtual 132, 3, (3, 146, 3), [5061, 5063, 34, 1007]), none, none, some (.pop, 1, (0, 99999, 0), []), some (.goto 93, 3, (0, 99999, 0), [])],
  [none, none, some (.aload_n 0, 1, (0, 99999, 0), []), some (.aload_n 0, 1, (0, 99999, 0), []), some (.getfield 75, 3, (1, 6, 26), [4123]), none, none, some (.iconst 0, 1, (0, 99999, 0), []), some (.iaload, 1, (0, 99999, 0), []), some (.aload_n 0, 1, (0, 99999, 0), []), some (.getfield 75, 3, (1, 6, 26), [4123]), none, none, some (.iconst 1, 1, (0, 99999, 0), []), some (.iaload, 1, (0, 99999, 0), []), some (.aload_n 0, 1, (0, 99999, 0), [])],
  [some (.getfield 75, 3, (1, 6, 26), [4123]), none, none, some (.iconst 2, 1, (0, 99999, 0), []), some (.iaload, 1, (0, 99999, 0), []), some (.invokevirtual 136, 3, (3, 147, 3), [5069, 5071, 35, 1007]), none, none, some (.pop, 1, (0, 99999, 0), []), some (.goto 67, 3, (0, 99999, 0), []), none, none, some (.aload_n 0, 1, (0, 99999, 0), []), some (.getfield 44, 3, (1, 6, 16), [4113]), none, none],
  [some (.aload_n 0, 1, (0, 99999, 0), []), some (.getfield 75, 3, (1, 6, 26), [4123]), none, none, some (.iconst 0, 1, (0, 99999, 0), []), some (.iaload, 1, (0, 99999, 0), []), some (.aload_n 0, 1, (0, 99999, 0), []), some (.getfield 75, 3, (1, 6, 26), [4123]), none, none, some (.iconst 1, 1, (0, 99999, 0), []), some (.iaload, 1, (0, 99999, 0), []), some (.iastore, 1, (0, 99999, 0), []), some (.goto 47, 3, (0, 99999, 0), []), none, none],
  [some (.aload_n 0, 1, (0, 99999, 0), []), some (.getfield 29, 3, (1, 6, 11), [4108]), none, none, some (.aload_n 0, 1, (0, 99999, 0), []), some (.getfield 75, 3, (1, 6, 26), [4123]), none, none, some (.iconst 0, 1, (0, 99999, 0), []), some (.iaload, 1, (0, 99999, 0), []), some (.aload_n 0, 1, (0, 99999, 0), []), some (.getfield 75, 3, (1, 6, 26), [4123]), none, none, some (.iconst 1, 1, (0, 99999, 0), []), some (.iaload, 1, (0, 99999, 0), [])],
  [some (.iastore, 1, (0, 99999, 0), []), some (.goto 27, 3, (0, 99999, 0), []), none, none, some (.aload_n 0, 1, (0, 99999, 0), []), some (.getfield 29, 3, (1, 6, 11), [4108]), none, none, some (.aload_n 0, 1, (0, 99999, 0), []), some (.getfield 75, 3, (1, 6, 26), [4123]), none, none, some (.iconst 0, 1, (0, 99999, 0), []), some (.iaload, 1, (0, 99999, 0), []), some (.bipush 99, 2, (0, 99999, 0), []), none],
  [some (.iastore, 1, (0, 99999, 0), []), some (.goto 11, 3, (0, 99999, 0), []), none, none, some (.aload_n 0, 1, (0, 99999, 0), []), some (.bipush 6, 2, (0, 99999, 0), []), none, some (.iload_n 1, 1, (0, 99999, 0), []), some (.isub, 1, (0, 99999, 0), []), some (.putfield 139, 3, (1, 6, 2), [4099]), none, none, some (.iconst 1, 1, (0, 99999, 0), []), some (.ireturn, 1, (0, 99999, 0), [])]])
def mX6_carries : ab_D := (yX6_carries, cX6_carries, 7, some .int, 6, 5, false, [
  [some (.iconst 0, 1, (0, 99999, 0), []), some (.istore 6, 2, (0, 99999, 0), []), none, some (.iload 6, 2, (0, 99999, 0), []), none, some (.iload_n 2, 1, (0, 99999, 0), []), some (.if_icmp .ge 39, 3, (0, 99999, 0), []), none, none, some (.iload 5, 2, (0, 99999, 0), []), none, some (.ifCond .eq 17, 3, (0, 99999, 0), []), none, none, some (.aload_n 1, 1, (0, 99999, 0), []), some (.iload 6, 2, (0, 99999, 0), [])],
  [none, some (.aload_n 3, 1, (0, 99999, 0), []), some (.iload 4, 2, (0, 99999, 0), []), none, some (.iload 6, 2, (0, 99999, 0), []), none, some (.iadd, 1, (0, 99999, 0), []), some (.iaload, 1, (0, 99999, 0), []), some (.iastore, 1, (0, 99999, 0), []), some (.goto 14, 3, (0, 99999, 0), []), none, none, some (.aload_n 3, 1, (0, 99999, 0), []), some (.iload 4, 2, (0, 99999, 0), []), none, some (.iload 6, 2, (0, 99999, 0), [])],
  [none, some (.iadd, 1, (0, 99999, 0), []), some (.aload_n 1, 1, (0, 99999, 0), []), some (.iload 6, 2, (0, 99999, 0), []), none, some (.iaload, 1, (0, 99999, 0), []), some (.iastore, 1, (0, 99999, 0), []), some (.iinc 6 1, 3, (0, 99999, 0), []), none, none, some (.goto (-39), 3, (0, 99999, 0), []), none, none, some (.iload 4, 2, (0, 99999, 0), []), none, some (.iload_n 2, 1, (0, 99999, 0), [])],
  [some (.iadd, 1, (0, 99999, 0), []), some (.ireturn, 1, (0, 99999, 0), [])]])
def mX6_all : ab_D := (yX6_all, cX6_all, 4, none, 6, 2, false, [
  [some (.aload_n 0, 1, (0, 99999, 0), []), some (.aload_n 0, 1, (0, 99999, 0), []), some (.getfield 20, 3, (1, 6, 8), [4105]), none, none, some (.bipush 9, 2, (0, 99999, 0), []), none, some (.aload_n 1, 1, (0, 99999, 0), []), some (.iconst 0, 1, (0, 99999, 0), []), some (.iload_n 2, 1, (0, 99999, 0), []), some (.invokevirtual 184, 3, (3, 163, 5), [5113, 5115, 40, 1007]), none, none, some (.istore_n 3, 1, (0, 99999, 0), []), some (.aload_n 0, 1, (0, 99999, 0), []), some (.aload_n 0, 1, (0, 99999, 0), [])],
  [some (.getfield 23, 3, (1, 6, 9), [4106]), none, none, some (.bipush 9, 2, (0, 99999, 0), []), none, some (.aload_n 1, 1, (0, 99999, 0), []), some (.iload_n 3, 1, (0, 99999, 0), []), some (.iload_n 2, 1, (0, 99999, 0), []), some (.invokevirtual 184, 3, (3, 163, 5), [5113, 5115, 40, 1007]), none, none, some (.istore_n 3, 1, (0, 99999, 0), []), some (.aload_n 0, 1, (0, 99999, 0), []), some (.aload_n 0, 1, (0, 99999, 0), []), some (.getfield 26, 3, (1, 6, 10), [4107]), none],
  [none, some (.bipush 9, 2, (0, 99999, 0), []), none, some (.aload_n 1, 1, (0, 99999, 0), []), some (.iload_n 3, 1, (0, 99999, 0), []), some (.iload_n 2, 1, (0, 99999, 0), []), some (.invokevirtual 184, 3, (3, 163, 5), [5113, 5115, 40, 1007]), none, none, some (.istore_n 3, 1, (0, 99999, 0), []), some (.aload_n 0, 1, (0, 99999, 0), []), some (.aload_n 0, 1, (0, 99999, 0), []), some (.getfield 29, 3, (1, 6, 11), [4108]), none, none, some (.bipush 9, 2, (0, 99999, 0), [])],
  [none, some (.aload_n 1, 1, (0, 99999, 0), []), some (.iload_n 3, 1, (0, 99999, 0), []), some (.iload_n 2, 1, (0, 99999, 0), []), some (.invokevirtual 184, 3, (3, 163, 5), [5113, 5115, 40, 1007]), none, none, some (.istore_n 3, 1, (0, 99999, 0), []), some (.aload_n 0, 1, (0, 99999, 0), []), some (.aload_n 0, 1, (0, 99999, 0), []), some (.getfield 32, 3, (1, 6, 12), [4109]), none, none, some (.bipush 6, 2, (0, 99999, 0), []), none, some (.aload_n 1, 1, (0, 99999, 0), [])],
  [some (.iload_n 3, 1, (0, 99999, 0), []), some (.iload_n 2, 1, (0, 99999, 0), []), some (.invokevirtual 184, 3, (3, 163, 5), [5113, 5115, 40, 1007]), none, none, some (.istore_n 3, 1, (0, 99999, 0), []), some (.aload_n 0, 1, (0, 99999, 0), []), some (.aload_n 0, 1, (0, 99999, 0), []), some (.getfield 35, 3, (1, 6, 13), [4110]), none, none, some (.bipush 6, 2, (0, 99999, 0), []), none, some (.aload_n 1, 1, (0, 99999, 0), []), some (.iload_n 3, 1, (0, 99999, 0), []), some (.iload_n 2, 1, (0, 99999, 0), [])],
  [some (.invokevirtual 184, 3, (3, 163, 5), [5113, 5115, 40, 1007]), none, none, some (.istore_n 3, 1, (0, 99999, 0), []), some (.aload_n 0, 1, (0, 99999, 0), []), some (.aload_n 0, 1, (0, 99999, 0), []), some (.getfield 38, 3, (1, 6, 14), [4111]), none, none, some (.bipush 6, 2, (0, 99999, 0), []), none, some (.aload_n 1, 1, (0, 99999, 0), []), some (.iload_n 3, 1, (0, 99999, 0), []), some (.iload_n 2, 1, (0, 99999, 0), []), some (.invokevirtual 184, 3, (3, 163, 5), [5113, 5115, 40, 1007]), none],
  [none, some (.istore_n 3, 1, (0, 99999, 0), []), some (.aload_n 0, 1, (0, 99999, 0), []), some (.aload_n 0, 1, (0, 99999, 0), []), some (.getfield 41, 3, (1, 6, 15), [4112]), none, none, some (.bipush 6, 2, (0, 99999, 0), []), none, some (.aload_n 1, 1, (0, 99999, 0), []), some (.iload_n 3, 1, (0, 99999, 0), []), some (.iload_n 2, 1, (0, 99999, 0), []), some (.invokevirtual 184, 3, (3, 163, 5), [5113, 5115, 40, 1007]), none, none, some (.istore_n 3, 1, (0, 99999, 0), [])],
  [some (.aload_n 0, 1, (0, 99999, 0), []), some (.aload_n 0, 1, (0, 99999, 0), []), some (.getfield 44, 3, (1, 6, 16), [4113]), none, none, some (.bipush 8, 2, (0, 99999, 0), []), none, some (.aload_n 1, 1, (0, 99999, 0), []), some (.iload_n 3, 1, (0, 99999, 0), []), some (.iload_n 2, 1, (0, 99999, 0), []), some (.invokevirtual 184, 3, (3, 163, 5), [5113, 5115, 40, 1007]), none, none, some (.istore_n 3, 1, (0, 99999, 0), []), some (.iload_n 2, 1, (0, 99999, 0), []), some (.ifCond .eq 58, 3, (0, 99999, 0), [])],
  [none, none, some (.aload_n 0, 1, (0, 99999, 0), []), some (.aload_n 1, 1, (0, 99999, 0), []), some (.iload_n 3, 1, (0, 99999, 0), []), some (.iaload, 1, (0, 99999, 0), []), some (.putfield 105, 3, (1, 6, 0), [4097]), none, none, some (.aload_n 0, 1, (0, 99999, 0), []), some (.aload_n 1, 1, (0, 99999, 0), []), some (.iload_n 3, 1, (0, 99999, 0), []), some (.iconst 1, 1, (0, 99999, 0), []), some (.iadd, 1, (0, 99999, 0), []), some (.iaload, 1, (0, 99999, 0), []), some (.putfield 108, 3, (1, 6, 1), [4098])],
  [none, none, some (.aload_n 0, 1, (0, 99999, 0), []), some (.aload_n 1, 1, (0, 99999, 0), []), some (.iload_n 3, 1, (0, 99999, 0), []), some (.iconst 2, 1, (0, 99999, 0), []), some (.iadd, 1, (0, 99999, 0), []), some (.iaload, 1, (0, 99999, 0), []), some (.putfield 139, 3, (1, 6, 2), [4099]), none, none, some (.aload_n 0, 1, (0, 99999, 0), []), some (.aload_n 1, 1, (0, 99999, 0), []), some (.iload_n 3, 1, (0, 99999, 0), []), some (.iconst 3, 1, (0, 99999, 0), []), some (.iadd, 1, (0, 99999, 0), [])],
  [some (.iaload, 1, (0, 99999, 0), []), some (.putfield 188, 3, (1, 6, 3), [4100]), none, none, some (.aload_n 0, 1, (0, 99999, 0), []), some (.aload_n 1, 1, (0, 99999, 0), []), some (.iload_n 3, 1, (0, 99999, 0), []), some (.iconst 4, 1, (0, 99999, 0), []), some (.iadd, 1, (0, 99999, 0), []), some (.iaload, 1, (0, 99999, 0), []), some (.putfield 191, 3, (1, 6, 4), [4101]), none, none, some (.aload_n 0, 1, (0, 99999, 0), []), some (.aload_n 1, 1, (0, 99999, 0), []), some (.iload_n 3, 1, (0, 99999, 0), [])],
  [some (.iconst 5, 1, (0, 99999, 0), []), some (.iadd, 1, (0, 99999, 0), []), some (.iaload, 1, (0, 99999, 0), []), some (.putfield 7, 3, (1, 6, 5), [4102]), none, none, some (.goto 55, 3, (0, 99999, 0), []), none, none, some (.aload_n 1, 1, (0, 99999, 0), []), some (.iload_n 3, 1, (0, 99999, 0), []), some (.aload_n 0, 1, (0, 99999, 0), []), some (.getfield 105, 3, (1, 6, 0), [4097]), none, none, some (.iastore, 1, (0, 99999, 0), [])],
  [some (.aload_n 1, 1, (0, 99999, 0), []), some (.iload_n 3, 1, (0, 99999, 0), []), some (.iconst 1, 1, (0, 99999, 0), []), some (.iadd, 1, (0, 99999, 0), []), some (.aload_n 0, 1, (0, 99999, 0), []), some (.getfield 108, 3, (1, 6, 1), [4098]), none, none, some (.iastore, 1, (0, 99999, 0), []), some (.aload_n 1, 1, (0, 99999, 0), []), some (.iload_n 3, 1, (0, 99999, 0), []), some (.iconst 2, 1, (0, 99999, 0), []), some (.iadd, 1, (0, 99999, 0), []), some (.aload_n 0, 1, (0, 99999, 0), []), some (.getfield 139, 3, (1, 6, 2), [4099]), none],
  [none, some (.iastore, 1, (0, 99999, 0), []), some (.aload_n 1, 1, (0, 99999, 0), []), some (.iload_n 3, 1, (0, 99999, 0), []), some (.iconst 3, 1, (0, 99999, 0), []), some (.iadd, 1, (0, 99999, 0), []), some (.aload_n 0, 1, (0, 99999, 0), []), some (.getfield 188, 3, (1, 6, 3), [4100]), none, none, some (.iastore, 1, (0, 99999, 0), []), some (.aload_n 1, 1, (0, 99999, 0), []), some (.iload_n 3, 1, (0, 99999, 0), []), some (.iconst 4, 1, (0, 99999, 0), []), some (.iadd, 1, (0, 99999, 0), []), some (.aload_n 0, 1, (0, 99999, 0), [])],
  [some (.getfield 191, 3, (1, 6, 4), [4101]), none, none, some (.iastore, 1, (0, 99999, 0), []), some (.aload_n 1, 1, (0, 99999, 0), []), some (.iload_n 3, 1, (0, 99999, 0), []), some (.iconst 5, 1, (0, 99999, 0), []), some (.iadd, 1, (0, 99999, 0), []), some (.aload_n 0, 1, (0, 99999, 0), []), some (.getfield 7, 3, (1, 6, 5), [4102]), none, none, some (.iastore, 1, (0, 99999, 0), []), some (.return_, 1, (0, 99999, 0), [])]])
def mX6_square : ab_D := (yX6_square, cX6_square, 5, some .int, 6, 1, false, [
  [some (.aload_n 0, 1, (0, 99999, 0), []), some (.iload_n 1, 1, (0, 99999, 0), []), some (.invokevirtual 194, 3, (3, 142, 1), [5105, 5107, 38, 1007]), none, none, some (.istore_n 2, 1, (0, 99999, 0), []), some (.iload_n 2, 1, (0, 99999, 0), []), some (.ifCond .eq 9, 3, (0, 99999, 0), []), none, none, some (.aload_n 0, 1, (0, 99999, 0), []), some (.iload_n 2, 1, (0, 99999, 0), []), some (.invokevirtual 115, 3, (3, 129, 1), [5013, 5015, 29, 1007]), none, none, some (.ireturn, 1, (0, 99999, 0), [])],
  [some (.aload_n 0, 1, (0, 99999, 0), []), some (.aload_n 0, 1, (0, 99999, 0), []), some (.getfield 78, 3, (1, 6, 32), [4129]), none, none, some (.iconst 0, 1, (0, 99999, 0), []), some (.invokevirtual 197, 3, (3, 164, 2), [5109, 5111, 39, 1007]), none, none, some (.aload_n 0, 1, (0, 99999, 0), []), some (.sipush 160, 3, (0, 99999, 0), []), none, none, some (.iload_n 1, 1, (0, 99999, 0), []), some (.imul, 1, (0, 99999, 0), []), some (.putfield 157, 3, (1, 6, 27), [4124])],
  [none, none, some (.aload_n 0, 1, (0, 99999, 0), []), some (.iconst 0, 1, (0, 99999, 0), []), some (.putfield 151, 3, (1, 6, 28), [4125]), none, none, some (.aload_n 0, 1, (0, 99999, 0), []), some (.aload_n 0, 1, (0, 99999, 0), []), some (.getfield 53, 3, (1, 6, 19), [4116]), none, none, some (.iload_n 1, 1, (0, 99999, 0), []), some (.iaload, 1, (0, 99999, 0), []), some (.putfield 154, 3, (1, 6, 29), [4126]), none],
  [none, some (.aload_n 0, 1, (0, 99999, 0), []), some (.iconst (-1), 1, (0, 99999, 0), []), some (.putfield 13, 3, (1, 6, 6), [4103]), none, none, some (.iconst 1, 1, (0, 99999, 0), []), some (.istore_n 3, 1, (0, 99999, 0), []), some (.aload_n 0, 1, (0, 99999, 0), []), some (.invokevirtual 201, 3, (3, 162, 0), [5117, 5119, 41, 1007]), none, none, some (.istore 4, 2, (0, 99999, 0), []), none, some (.iload 4, 2, (0, 99999, 0), []), none],
  [some (.ifCond .eq 69, 3, (0, 99999, 0), []), none, none, some (.aload_n 0, 1, (0, 99999, 0), []), some (.getfield 151, 3, (1, 6, 28), [4125]), none, none, some (.aload_n 0, 1, (0, 99999, 0), []), some (.getfield 154, 3, (1, 6, 29), [4126]), none, none, some (.if_icmp .ge 58, 3, (0, 99999, 0), []), none, none, some (.aload_n 0, 1, (0, 99999, 0), []), some (.getfield 59, 3, (1, 6, 21), [4118])],
  [none, none, some (.aload_n 0, 1, (0, 99999, 0), []), some (.getfield 157, 3, (1, 6, 27), [4124]), none, none, some (.aload_n 0, 1, (0, 99999, 0), []), some (.getfield 151, 3, (1, 6, 28), [4125]), none, none, some (.iadd, 1, (0, 99999, 0), []), some (.laload, 1, (0, 99999, 0), []), some (.l2i, 1, (0, 99999, 0), []), some (.bipush 59, 2, (0, 99999, 0), []), none, some (.if_icmp .eq 16, 3, (0, 99999, 0), [])],
  [none, none, some (.aload_n 0, 1, (0, 99999, 0), []), some (.aload_n 0, 1, (0, 99999, 0), []), some (.getfield 151, 3, (1, 6, 28), [4125]), none, none, some (.invokevirtual 167, 3, (3, 156, 1), [5125, 5127, 43, 1007]), none, none, some (.istore 4, 2, (0, 99999, 0), []), none, some (.goto (-46), 3, (0, 99999, 0), []), none, none, some (.aload_n 0, 1, (0, 99999, 0), [])],
  [some (.dup, 1, (0, 99999, 0), []), some (.getfield 151, 3, (1, 6, 28), [4125]), none, none, some (.iconst 1, 1, (0, 99999, 0), []), some (.iadd, 1, (0, 99999, 0), []), some (.putfield 151, 3, (1, 6, 28), [4125]), none, none, some (.iinc 3 1, 3, (0, 99999, 0), []), none, none, some (.aload_n 0, 1, (0, 99999, 0), []), some (.invokevirtual 201, 3, (3, 162, 0), [5117, 5119, 41, 1007]), none, none],
  [some (.istore 4, 2, (0, 99999, 0), []), none, some (.goto (-68), 3, (0, 99999, 0), []), none, none, some (.iload 4, 2, (0, 99999, 0), []), none, some (.ifCond .eq 5, 3, (0, 99999, 0), []), none, none, some (.iload_n 3, 1, (0, 99999, 0), []), some (.ireturn, 1, (0, 99999, 0), []), some (.aload_n 0, 1, (0, 99999, 0), []), some (.aload_n 0, 1, (0, 99999, 0), []), some (.getfield 78, 3, (1, 6, 32), [4129]), none],
  [none, some (.iconst 1, 1, (0, 99999, 0), []), some (.invokevirtual 197, 3, (3, 164, 2), [5109, 5111, 39, 1007]), none, none, some (.aload_n 0, 1, (0, 99999, 0), []), some (.aload_n 0, 1, (0, 99999, 0), []), some (.getfield 148, 3, (1, 6, 31), [4128]), none, none, some (.putfield 13, 3, (1, 6, 6), [4103]), none, none, some (.aload_n 0, 1, (0, 99999, 0), []), some (.bipush (-6), 2, (0, 99999, 0), []), none],
  [some (.invokevirtual 115, 3, (3, 129, 1), [5013, 5015, 29, 1007]), none, none, some (.ireturn, 1, (0, 99999, 0), [])]])
def mX6_fault : ab_D := (yX6_fault, cX6_fault, 1, some .int, 6, 0, false, [
  [some (.aload_n 0, 1, (0, 99999, 0), []), some (.getfield 13, 3, (1, 6, 6), [4103]), none, none, some (.ireturn, 1, (0, 99999, 0), [])]])
def mX6_many : ab_D := (yX6_many, cX6_many, 4, some .int, 6, 1, false, [
  [some (.iconst 0, 1, (0, 99999, 0), []), some (.istore_n 2, 1, (0, 99999, 0), []), some (.iconst 0, 1, (0, 99999, 0), []), some (.istore_n 3, 1, (0, 99999, 0), []), some (.iload_n 3, 1, (0, 99999, 0), []), some (.bipush 9, 2, (0, 99999, 0), []), none, some (.if_icmp .ge 17, 3, (0, 99999, 0), []), none, none, some (.iload_n 2, 1, (0, 99999, 0), []), some (.iload_n 1, 1, (0, 99999, 0), []), some (.iload_n 3, 1, (0, 99999, 0), []), some (.ishr, 1, (0, 99999, 0), []), some (.iconst 1, 1, (0, 99999, 0), []), some (.iand, 1, (0, 99999, 0), [])],
  [some (.iadd, 1, (0, 99999, 0), []), some (.istore_n 2, 1, (0, 99999, 0), []), some (.iinc 3 1, 3, (0, 99999, 0), []), none, none, some (.goto (-17), 3, (0, 99999, 0), []), none, none, some (.iload_n 2, 1, (0, 99999, 0), []), some (.ireturn, 1, (0, 99999, 0), [])]])
def mX6_worthOf : ab_D := (yX6_worthOf, cX6_worthOf, 4, some .int, 6, 1, false, [
  [some (.iconst 0, 1, (0, 99999, 0), []), some (.istore_n 2, 1, (0, 99999, 0), []), some (.iconst 0, 1, (0, 99999, 0), []), some (.istore_n 3, 1, (0, 99999, 0), []), some (.iload_n 3, 1, (0, 99999, 0), []), some (.aload_n 0, 1, (0, 99999, 0), []), some (.getfield 105, 3, (1, 6, 0), [4097]), none, none, some (.if_icmp .ge 26, 3, (0, 99999, 0), []), none, none, some (.iload_n 1, 1, (0, 99999, 0), []), some (.iload_n 3, 1, (0, 99999, 0), []), some (.ishr, 1, (0, 99999, 0), []), some (.iconst 1, 1, (0, 99999, 0), [])],
  [some (.iand, 1, (0, 99999, 0), []), some (.iconst 1, 1, (0, 99999, 0), []), some (.if_icmp .ne 11, 3, (0, 99999, 0), []), none, none, some (.iload_n 2, 1, (0, 99999, 0), []), some (.aload_n 0, 1, (0, 99999, 0), []), some (.iload_n 3, 1, (0, 99999, 0), []), some (.invokevirtual 125, 3, (3, 144, 1), [5049, 5051, 32, 1007]), none, none, some (.iadd, 1, (0, 99999, 0), []), some (.istore_n 2, 1, (0, 99999, 0), []), some (.iinc 3 1, 3, (0, 99999, 0), []), none, none],
  [some (.goto (-28), 3, (0, 99999, 0), []), none, none, some (.iload_n 2, 1, (0, 99999, 0), []), some (.ireturn, 1, (0, 99999, 0), [])]])
def mX6_harmOf : ab_D := (yX6_harmOf, cX6_harmOf, 4, some .int, 6, 1, false, [
  [some (.iconst 0, 1, (0, 99999, 0), []), some (.istore_n 2, 1, (0, 99999, 0), []), some (.iconst 0, 1, (0, 99999, 0), []), some (.istore_n 3, 1, (0, 99999, 0), []), some (.iload_n 3, 1, (0, 99999, 0), []), some (.aload_n 0, 1, (0, 99999, 0), []), some (.getfield 105, 3, (1, 6, 0), [4097]), none, none, some (.if_icmp .ge 26, 3, (0, 99999, 0), []), none, none, some (.iload_n 1, 1, (0, 99999, 0), []), some (.iload_n 3, 1, (0, 99999, 0), []), some (.ishr, 1, (0, 99999, 0), []), some (.iconst 1, 1, (0, 99999, 0), [])],
  [some (.iand, 1, (0, 99999, 0), []), some (.iconst 1, 1, (0, 99999, 0), []), some (.if_icmp .ne 11, 3, (0, 99999, 0), []), none, none, some (.iload_n 2, 1, (0, 99999, 0), []), some (.aload_n 0, 1, (0, 99999, 0), []), some (.iload_n 3, 1, (0, 99999, 0), []), some (.invokevirtual 122, 3, (3, 145, 1), [5045, 5047, 31, 1007]), none, none, some (.iadd, 1, (0, 99999, 0), []), some (.istore_n 2, 1, (0, 99999, 0), []), some (.iinc 3 1, 3, (0, 99999, 0), []), none, none],
  [some (.goto (-28), 3, (0, 99999, 0), []), none, none, some (.iload_n 2, 1, (0, 99999, 0), []), some (.ireturn, 1, (0, 99999, 0), [])]])
def mX6_tellsBest : ab_D := (yX6_tellsBest, cX6_tellsBest, 6, none, 6, 1, false, [
  [some (.iconst 0, 1, (0, 99999, 0), []), some (.istore_n 2, 1, (0, 99999, 0), []), some (.iload_n 2, 1, (0, 99999, 0), []), some (.bipush 100, 2, (0, 99999, 0), []), none, some (.if_icmp .ge 16, 3, (0, 99999, 0), []), none, none, some (.aload_n 0, 1, (0, 99999, 0), []), some (.getfield 87, 3, (1, 6, 35), [4132]), none, none, some (.iload_n 2, 1, (0, 99999, 0), []), some (.iconst (-1), 1, (0, 99999, 0), []), some (.iastore, 1, (0, 99999, 0), []), some (.iinc 2 1, 3, (0, 99999, 0), [])],
  [none, none, some (.goto (-16), 3, (0, 99999, 0), []), none, none, some (.iconst 0, 1, (0, 99999, 0), []), some (.istore_n 2, 1, (0, 99999, 0), []), some (.iload_n 2, 1, (0, 99999, 0), []), some (.iconst 1, 1, (0, 99999, 0), []), some (.aload_n 0, 1, (0, 99999, 0), []), some (.getfield 105, 3, (1, 6, 0), [4097]), none, none, some (.ishl, 1, (0, 99999, 0), []), some (.if_icmp .ge 97, 3, (0, 99999, 0), []), none],
  [none, some (.iload_n 2, 1, (0, 99999, 0), []), some (.iload_n 1, 1, (0, 99999, 0), []), some (.iand, 1, (0, 99999, 0), []), some (.iload_n 2, 1, (0, 99999, 0), []), some (.if_icmp .eq 6, 3, (0, 99999, 0), []), none, none, some (.goto 81, 3, (0, 99999, 0), []), none, none, some (.aload_n 0, 1, (0, 99999, 0), []), some (.iload_n 2, 1, (0, 99999, 0), []), some (.invokevirtual 204, 3, (3, 168, 1), [5161, 5163, 50, 1007]), none, none],
  [some (.istore_n 3, 1, (0, 99999, 0), []), some (.iload_n 3, 1, (0, 99999, 0), []), some (.bipush 99, 2, (0, 99999, 0), []), none, some (.if_icmp .le 6, 3, (0, 99999, 0), []), none, none, some (.goto 66, 3, (0, 99999, 0), []), none, none, some (.aload_n 0, 1, (0, 99999, 0), []), some (.getfield 87, 3, (1, 6, 35), [4132]), none, none, some (.iload_n 3, 1, (0, 99999, 0), []), some (.iaload, 1, (0, 99999, 0), [])],
  [some (.istore 4, 2, (0, 99999, 0), []), none, some (.iload 4, 2, (0, 99999, 0), []), none, some (.iconst (-1), 1, (0, 99999, 0), []), some (.if_icmp .ne 7, 3, (0, 99999, 0), []), none, none, some (.iconst 1, 1, (0, 99999, 0), []), some (.goto 15, 3, (0, 99999, 0), []), none, none, some (.aload_n 0, 1, (0, 99999, 0), []), some (.iload 4, 2, (0, 99999, 0), []), none, some (.invokevirtual 207, 3, (3, 167, 1), [5165, 5167, 51, 1007])],
  [none, none, some (.aload_n 0, 1, (0, 99999, 0), []), some (.iload_n 2, 1, (0, 99999, 0), []), some (.invokevirtual 207, 3, (3, 167, 1), [5165, 5167, 51, 1007]), none, none, some (.isub, 1, (0, 99999, 0), []), some (.istore 5, 2, (0, 99999, 0), []), none, some (.iload 5, 2, (0, 99999, 0), []), none, some (.ifCond .gt 22, 3, (0, 99999, 0), []), none, none, some (.iload 5, 2, (0, 99999, 0), [])],
  [none, some (.ifCond .ne 24, 3, (0, 99999, 0), []), none, none, some (.aload_n 0, 1, (0, 99999, 0), []), some (.iload_n 2, 1, (0, 99999, 0), []), some (.invokevirtual 210, 3, (3, 169, 1), [5169, 5171, 52, 1007]), none, none, some (.aload_n 0, 1, (0, 99999, 0), []), some (.iload 4, 2, (0, 99999, 0), []), none, some (.invokevirtual 210, 3, (3, 169, 1), [5169, 5171, 52, 1007]), none, none, some (.if_icmp .ge 10, 3, (0, 99999, 0), [])],
  [none, none, some (.aload_n 0, 1, (0, 99999, 0), []), some (.getfield 87, 3, (1, 6, 35), [4132]), none, none, some (.iload_n 3, 1, (0, 99999, 0), []), some (.iload_n 2, 1, (0, 99999, 0), []), some (.iastore, 1, (0, 99999, 0), []), some (.iinc 2 1, 3, (0, 99999, 0), []), none, none, some (.goto (-101), 3, (0, 99999, 0), []), none, none, some (.return_, 1, (0, 99999, 0), [])]])
def mX6_greedyFor : ab_D := (yX6_greedyFor, cX6_greedyFor, 6, some .int, 6, 1, false, [
  [some (.iload_n 1, 1, (0, 99999, 0), []), some (.istore_n 2, 1, (0, 99999, 0), []), some (.iconst 0, 1, (0, 99999, 0), []), some (.istore_n 3, 1, (0, 99999, 0), []), some (.iload_n 2, 1, (0, 99999, 0), []), some (.ifCond .le 111, 3, (0, 99999, 0), []), none, none, some (.iconst (-1), 1, (0, 99999, 0), []), some (.istore 4, 2, (0, 99999, 0), []), none, some (.iconst 0, 1, (0, 99999, 0), []), some (.istore 5, 2, (0, 99999, 0), []), none, some (.iload 5, 2, (0, 99999, 0), []), none],
  [some (.aload_n 0, 1, (0, 99999, 0), []), some (.getfield 105, 3, (1, 6, 0), [4097]), none, none, some (.if_icmp .ge 69, 3, (0, 99999, 0), []), none, none, some (.aload_n 0, 1, (0, 99999, 0), []), some (.getfield 29, 3, (1, 6, 11), [4108]), none, none, some (.iload 5, 2, (0, 99999, 0), []), none, some (.iaload, 1, (0, 99999, 0), []), some (.bipush 99, 2, (0, 99999, 0), []), none],
  [some (.if_icmp .ne 51, 3, (0, 99999, 0), []), none, none, some (.iload_n 3, 1, (0, 99999, 0), []), some (.iload 5, 2, (0, 99999, 0), []), none, some (.ishr, 1, (0, 99999, 0), []), some (.iconst 1, 1, (0, 99999, 0), []), some (.iand, 1, (0, 99999, 0), []), some (.iconst 1, 1, (0, 99999, 0), []), some (.if_icmp .eq 41, 3, (0, 99999, 0), []), none, none, some (.aload_n 0, 1, (0, 99999, 0), []), some (.iload 5, 2, (0, 99999, 0), []), none],
  [some (.invokevirtual 125, 3, (3, 144, 1), [5049, 5051, 32, 1007]), none, none, some (.iload_n 2, 1, (0, 99999, 0), []), some (.if_icmp .le 6, 3, (0, 99999, 0), []), none, none, some (.goto 28, 3, (0, 99999, 0), []), none, none, some (.iload 4, 2, (0, 99999, 0), []), none, some (.iconst (-1), 1, (0, 99999, 0), []), some (.if_icmp .eq 18, 3, (0, 99999, 0), []), none, none],
  [some (.aload_n 0, 1, (0, 99999, 0), []), some (.iload 5, 2, (0, 99999, 0), []), none, some (.invokevirtual 125, 3, (3, 144, 1), [5049, 5051, 32, 1007]), none, none, some (.aload_n 0, 1, (0, 99999, 0), []), some (.iload 4, 2, (0, 99999, 0), []), none, some (.invokevirtual 125, 3, (3, 144, 1), [5049, 5051, 32, 1007]), none, none, some (.if_icmp .le 7, 3, (0, 99999, 0), []), none, none, some (.iload 5, 2, (0, 99999, 0), [])],
  [none, some (.istore 4, 2, (0, 99999, 0), []), none, some (.iinc 5 1, 3, (0, 99999, 0), []), none, none, some (.goto (-72), 3, (0, 99999, 0), []), none, none, some (.iload 4, 2, (0, 99999, 0), []), none, some (.iconst (-1), 1, (0, 99999, 0), []), some (.if_icmp .ne 5, 3, (0, 99999, 0), []), none, none, some (.iconst (-1), 1, (0, 99999, 0), [])],
  [some (.ireturn, 1, (0, 99999, 0), []), some (.iload_n 3, 1, (0, 99999, 0), []), some (.iconst 1, 1, (0, 99999, 0), []), some (.iload 4, 2, (0, 99999, 0), []), none, some (.ishl, 1, (0, 99999, 0), []), some (.iadd, 1, (0, 99999, 0), []), some (.istore_n 3, 1, (0, 99999, 0), []), some (.iload_n 2, 1, (0, 99999, 0), []), some (.aload_n 0, 1, (0, 99999, 0), []), some (.iload 4, 2, (0, 99999, 0), []), none, some (.invokevirtual 125, 3, (3, 144, 1), [5049, 5051, 32, 1007]), none, none, some (.isub, 1, (0, 99999, 0), [])],
  [some (.istore_n 2, 1, (0, 99999, 0), []), some (.goto (-109), 3, (0, 99999, 0), []), none, none, some (.iload_n 3, 1, (0, 99999, 0), []), some (.ireturn, 1, (0, 99999, 0), [])]])
def mX6_changeFor : ab_D := (yX6_changeFor, cX6_changeFor, 2, some .int, 6, 1, false, [
  [some (.aload_n 0, 1, (0, 99999, 0), []), some (.getfield 139, 3, (1, 6, 2), [4099]), none, none, some (.ifCond .ne 12, 3, (0, 99999, 0), []), none, none, some (.aload_n 0, 1, (0, 99999, 0), []), some (.getfield 87, 3, (1, 6, 35), [4132]), none, none, some (.iload_n 1, 1, (0, 99999, 0), []), some (.iaload, 1, (0, 99999, 0), []), some (.goto 8, 3, (0, 99999, 0), []), none, none],
  [some (.aload_n 0, 1, (0, 99999, 0), []), some (.iload_n 1, 1, (0, 99999, 0), []), some (.invokevirtual 213, 3, (3, 171, 1), [5173, 5175, 53, 1007]), none, none, some (.ireturn, 1, (0, 99999, 0), [])]])
def mX6_change : ab_D := (yX6_change, cX6_change, 3, some .int, 6, 2, false, [
  [some (.iload_n 2, 1, (0, 99999, 0), []), some (.ifCond .lt 8, 3, (0, 99999, 0), []), none, none, some (.iload_n 2, 1, (0, 99999, 0), []), some (.iconst 1, 1, (0, 99999, 0), []), some (.if_icmp .le 10, 3, (0, 99999, 0), []), none, none, some (.aload_n 0, 1, (0, 99999, 0), []), some (.bipush (-5), 2, (0, 99999, 0), []), none, some (.invokevirtual 216, 3, (3, 130, 1), [5153, 5155, 48, 1007]), none, none, some (.ireturn, 1, (0, 99999, 0), [])],
  [some (.aload_n 0, 1, (0, 99999, 0), []), some (.iload_n 1, 1, (0, 99999, 0), []), some (.iconst 0, 1, (0, 99999, 0), []), some (.bipush 99, 2, (0, 99999, 0), []), none, some (.invokevirtual 128, 3, (3, 134, 3), [5057, 5059, 33, 1007]), none, none, some (.ifCond .ne 10, 3, (0, 99999, 0), []), none, none, some (.aload_n 0, 1, (0, 99999, 0), []), some (.bipush (-6), 2, (0, 99999, 0), []), none, some (.invokevirtual 216, 3, (3, 130, 1), [5153, 5155, 48, 1007]), none],
  [none, some (.ireturn, 1, (0, 99999, 0), []), some (.aload_n 0, 1, (0, 99999, 0), []), some (.aload_n 0, 1, (0, 99999, 0), []), some (.bipush 99, 2, (0, 99999, 0), []), none, some (.invokevirtual 145, 3, (3, 153, 1), [5097, 5099, 37, 1007]), none, none, some (.invokevirtual 219, 3, (3, 170, 1), [5157, 5159, 49, 1007]), none, none, some (.iload_n 2, 1, (0, 99999, 0), []), some (.ifCond .ne 12, 3, (0, 99999, 0), []), none, none],
  [some (.aload_n 0, 1, (0, 99999, 0), []), some (.getfield 87, 3, (1, 6, 35), [4132]), none, none, some (.iload_n 1, 1, (0, 99999, 0), []), some (.iaload, 1, (0, 99999, 0), []), some (.goto 8, 3, (0, 99999, 0), []), none, none, some (.aload_n 0, 1, (0, 99999, 0), []), some (.iload_n 1, 1, (0, 99999, 0), []), some (.invokevirtual 213, 3, (3, 171, 1), [5173, 5175, 53, 1007]), none, none, some (.ireturn, 1, (0, 99999, 0), [])]])
def mX6_priceFor : ab_D := (yX6_priceFor, cX6_priceFor, 5, some .int, 6, 2, false, [
  [some (.aload_n 0, 1, (0, 99999, 0), []), some (.getfield 44, 3, (1, 6, 16), [4113]), none, none, some (.iload_n 2, 1, (0, 99999, 0), []), some (.iaload, 1, (0, 99999, 0), []), some (.aload_n 0, 1, (0, 99999, 0), []), some (.getfield 35, 3, (1, 6, 13), [4110]), none, none, some (.iload_n 1, 1, (0, 99999, 0), []), some (.iaload, 1, (0, 99999, 0), []), some (.isub, 1, (0, 99999, 0), []), some (.istore_n 3, 1, (0, 99999, 0), []), some (.iconst 0, 1, (0, 99999, 0), []), some (.istore 4, 2, (0, 99999, 0), [])],
  [none, some (.iload 4, 2, (0, 99999, 0), []), none, some (.aload_n 0, 1, (0, 99999, 0), []), some (.getfield 108, 3, (1, 6, 1), [4098]), none, none, some (.if_icmp .ge 29, 3, (0, 99999, 0), []), none, none, some (.iload 4, 2, (0, 99999, 0), []), none, some (.iload_n 1, 1, (0, 99999, 0), []), some (.if_icmp .eq 17, 3, (0, 99999, 0), []), none, none],
  [some (.aload_n 0, 1, (0, 99999, 0), []), some (.getfield 38, 3, (1, 6, 14), [4111]), none, none, some (.iload 4, 2, (0, 99999, 0), []), none, some (.iaload, 1, (0, 99999, 0), []), some (.iload_n 2, 1, (0, 99999, 0), []), some (.if_icmp .ne 6, 3, (0, 99999, 0), []), none, none, some (.iinc 3 2, 3, (0, 99999, 0), []), none, none, some (.iinc 4 1, 3, (0, 99999, 0), []), none],
  [none, some (.goto (-32), 3, (0, 99999, 0), []), none, none, some (.iload_n 3, 1, (0, 99999, 0), []), some (.iconst 1, 1, (0, 99999, 0), []), some (.if_icmp .ge 7, 3, (0, 99999, 0), []), none, none, some (.iconst 1, 1, (0, 99999, 0), []), some (.goto 4, 3, (0, 99999, 0), []), none, none, some (.iload_n 3, 1, (0, 99999, 0), []), some (.ireturn, 1, (0, 99999, 0), [])]])
def mX6_price : ab_D := (yX6_price, cX6_price, 3, some .int, 6, 2, false, [
  [some (.aload_n 0, 1, (0, 99999, 0), []), some (.iload_n 1, 1, (0, 99999, 0), []), some (.invokevirtual 142, 3, (3, 133, 1), [5085, 5087, 36, 1007]), none, none, some (.ifCond .eq 23, 3, (0, 99999, 0), []), none, none, some (.aload_n 0, 1, (0, 99999, 0), []), some (.iload_n 2, 1, (0, 99999, 0), []), some (.iconst 0, 1, (0, 99999, 0), []), some (.bipush 7, 2, (0, 99999, 0), []), none, some (.invokevirtual 128, 3, (3, 134, 3), [5057, 5059, 33, 1007]), none, none],
  [some (.ifCond .eq 12, 3, (0, 99999, 0), []), none, none, some (.aload_n 0, 1, (0, 99999, 0), []), some (.iload_n 1, 1, (0, 99999, 0), []), some (.iload_n 2, 1, (0, 99999, 0), []), some (.invokevirtual 223, 3, (3, 174, 2), [5181, 5183, 54, 1007]), none, none, some (.goto 8, 3, (0, 99999, 0), []), none, none, some (.aload_n 0, 1, (0, 99999, 0), []), some (.iconst (-1), 1, (0, 99999, 0), []), some (.invokevirtual 115, 3, (3, 129, 1), [5013, 5015, 29, 1007]), none],
  [none, some (.ireturn, 1, (0, 99999, 0), [])]])
def mX6_thrown : ab_D := (yX6_thrown, cX6_thrown, 4, some .int, 6, 2, false, [
  [some (.iload_n 2, 1, (0, 99999, 0), []), some (.aload_n 0, 1, (0, 99999, 0), []), some (.iload_n 1, 1, (0, 99999, 0), []), some (.aload_n 0, 1, (0, 99999, 0), []), some (.getfield 38, 3, (1, 6, 14), [4111]), none, none, some (.iload_n 1, 1, (0, 99999, 0), []), some (.iaload, 1, (0, 99999, 0), []), some (.invokevirtual 223, 3, (3, 174, 2), [5181, 5183, 54, 1007]), none, none, some (.isub, 1, (0, 99999, 0), []), some (.istore_n 3, 1, (0, 99999, 0), []), some (.aload_n 0, 1, (0, 99999, 0), []), some (.iload_n 2, 1, (0, 99999, 0), [])],
  [some (.iconst 0, 1, (0, 99999, 0), []), some (.bipush 99, 2, (0, 99999, 0), []), none, some (.invokevirtual 128, 3, (3, 134, 3), [5057, 5059, 33, 1007]), none, none, some (.ifCond .eq 17, 3, (0, 99999, 0), []), none, none, some (.iload_n 2, 1, (0, 99999, 0), []), some (.aload_n 0, 1, (0, 99999, 0), []), some (.getfield 32, 3, (1, 6, 12), [4109]), none, none, some (.iload_n 1, 1, (0, 99999, 0), []), some (.iaload, 1, (0, 99999, 0), [])],
  [some (.if_icmp .gt 7, 3, (0, 99999, 0), []), none, none, some (.iload_n 3, 1, (0, 99999, 0), []), some (.ifCond .ge 7, 3, (0, 99999, 0), []), none, none, some (.iconst (-1), 1, (0, 99999, 0), []), some (.goto 8, 3, (0, 99999, 0), []), none, none, some (.aload_n 0, 1, (0, 99999, 0), []), some (.iload_n 3, 1, (0, 99999, 0), []), some (.invokevirtual 227, 3, (3, 172, 1), [5193, 5195, 56, 1007]), none, none],
  [some (.ireturn, 1, (0, 99999, 0), [])]])
def mX6_tellsThrow : ab_D := (yX6_tellsThrow, cX6_tellsThrow, 4, none, 6, 1, false, [
  [some (.aload_n 0, 1, (0, 99999, 0), []), some (.aload_n 0, 1, (0, 99999, 0), []), some (.bipush 99, 2, (0, 99999, 0), []), none, some (.invokevirtual 145, 3, (3, 153, 1), [5097, 5099, 37, 1007]), none, none, some (.invokevirtual 219, 3, (3, 170, 1), [5157, 5159, 49, 1007]), none, none, some (.aload_n 0, 1, (0, 99999, 0), []), some (.iconst (-1), 1, (0, 99999, 0), []), some (.putfield 230, 3, (1, 6, 36), [4133]), none, none, some (.aload_n 0, 1, (0, 99999, 0), [])],
  [some (.iconst (-1), 1, (0, 99999, 0), []), some (.putfield 233, 3, (1, 6, 37), [4134]), none, none, some (.iconst 0, 1, (0, 99999, 0), []), some (.istore_n 2, 1, (0, 99999, 0), []), some (.iload_n 2, 1, (0, 99999, 0), []), some (.aload_n 0, 1, (0, 99999, 0), []), some (.getfield 32, 3, (1, 6, 12), [4109]), none, none, some (.iload_n 1, 1, (0, 99999, 0), []), some (.iaload, 1, (0, 99999, 0), []), some (.if_icmp .gt 58, 3, (0, 99999, 0), []), none, none],
  [some (.aload_n 0, 1, (0, 99999, 0), []), some (.iload_n 1, 1, (0, 99999, 0), []), some (.iload_n 2, 1, (0, 99999, 0), []), some (.invokevirtual 236, 3, (3, 176, 2), [5189, 5191, 55, 1007]), none, none, some (.istore_n 3, 1, (0, 99999, 0), []), some (.iload_n 3, 1, (0, 99999, 0), []), some (.iconst (-1), 1, (0, 99999, 0), []), some (.if_icmp .eq 40, 3, (0, 99999, 0), []), none, none, some (.aload_n 0, 1, (0, 99999, 0), []), some (.getfield 230, 3, (1, 6, 36), [4133]), none, none],
  [some (.iconst (-1), 1, (0, 99999, 0), []), some (.if_icmp .eq 18, 3, (0, 99999, 0), []), none, none, some (.aload_n 0, 1, (0, 99999, 0), []), some (.iload_n 3, 1, (0, 99999, 0), []), some (.invokevirtual 210, 3, (3, 169, 1), [5169, 5171, 52, 1007]), none, none, some (.aload_n 0, 1, (0, 99999, 0), []), some (.getfield 233, 3, (1, 6, 37), [4134]), none, none, some (.if_icmp .lt 6, 3, (0, 99999, 0), []), none, none],
  [some (.goto 17, 3, (0, 99999, 0), []), none, none, some (.aload_n 0, 1, (0, 99999, 0), []), some (.iload_n 2, 1, (0, 99999, 0), []), some (.putfield 230, 3, (1, 6, 36), [4133]), none, none, some (.aload_n 0, 1, (0, 99999, 0), []), some (.aload_n 0, 1, (0, 99999, 0), []), some (.iload_n 3, 1, (0, 99999, 0), []), some (.invokevirtual 210, 3, (3, 169, 1), [5169, 5171, 52, 1007]), none, none, some (.putfield 233, 3, (1, 6, 37), [4134]), none],
  [none, some (.iinc 2 1, 3, (0, 99999, 0), []), none, none, some (.goto (-62), 3, (0, 99999, 0), []), none, none, some (.return_, 1, (0, 99999, 0), [])]])
def mX6_harm : ab_D := (yX6_harm, cX6_harm, 4, some .int, 6, 2, false, [
  [some (.aload_n 0, 1, (0, 99999, 0), []), some (.iload_n 1, 1, (0, 99999, 0), []), some (.invokevirtual 142, 3, (3, 133, 1), [5085, 5087, 36, 1007]), none, none, some (.ifCond .ne 9, 3, (0, 99999, 0), []), none, none, some (.aload_n 0, 1, (0, 99999, 0), []), some (.iconst (-1), 1, (0, 99999, 0), []), some (.invokevirtual 216, 3, (3, 130, 1), [5153, 5155, 48, 1007]), none, none, some (.ireturn, 1, (0, 99999, 0), []), some (.aload_n 0, 1, (0, 99999, 0), []), some (.iload_n 2, 1, (0, 99999, 0), [])],
  [some (.iconst 0, 1, (0, 99999, 0), []), some (.bipush 99, 2, (0, 99999, 0), []), none, some (.invokevirtual 128, 3, (3, 134, 3), [5057, 5059, 33, 1007]), none, none, some (.ifCond .ne 10, 3, (0, 99999, 0), []), none, none, some (.aload_n 0, 1, (0, 99999, 0), []), some (.bipush (-6), 2, (0, 99999, 0), []), none, some (.invokevirtual 216, 3, (3, 130, 1), [5153, 5155, 48, 1007]), none, none, some (.ireturn, 1, (0, 99999, 0), [])],
  [some (.aload_n 0, 1, (0, 99999, 0), []), some (.aload_n 0, 1, (0, 99999, 0), []), some (.bipush 99, 2, (0, 99999, 0), []), none, some (.invokevirtual 145, 3, (3, 153, 1), [5097, 5099, 37, 1007]), none, none, some (.invokevirtual 219, 3, (3, 170, 1), [5157, 5159, 49, 1007]), none, none, some (.aload_n 0, 1, (0, 99999, 0), []), some (.iload_n 1, 1, (0, 99999, 0), []), some (.iload_n 2, 1, (0, 99999, 0), []), some (.invokevirtual 236, 3, (3, 176, 2), [5189, 5191, 55, 1007]), none, none],
  [some (.istore_n 3, 1, (0, 99999, 0), []), some (.iload_n 3, 1, (0, 99999, 0), []), some (.iconst (-1), 1, (0, 99999, 0), []), some (.if_icmp .ne 7, 3, (0, 99999, 0), []), none, none, some (.iconst (-1), 1, (0, 99999, 0), []), some (.goto 8, 3, (0, 99999, 0), []), none, none, some (.aload_n 0, 1, (0, 99999, 0), []), some (.iload_n 3, 1, (0, 99999, 0), []), some (.invokevirtual 210, 3, (3, 169, 1), [5169, 5171, 52, 1007]), none, none, some (.ireturn, 1, (0, 99999, 0), [])]])
def mX6_best : ab_D := (yX6_best, cX6_best, 3, some .int, 6, 2, false, [
  [some (.aload_n 0, 1, (0, 99999, 0), []), some (.iload_n 1, 1, (0, 99999, 0), []), some (.invokevirtual 142, 3, (3, 133, 1), [5085, 5087, 36, 1007]), none, none, some (.ifCond .ne 9, 3, (0, 99999, 0), []), none, none, some (.aload_n 0, 1, (0, 99999, 0), []), some (.iconst (-1), 1, (0, 99999, 0), []), some (.invokevirtual 216, 3, (3, 130, 1), [5153, 5155, 48, 1007]), none, none, some (.ireturn, 1, (0, 99999, 0), []), some (.iload_n 2, 1, (0, 99999, 0), []), some (.ifCond .lt 8, 3, (0, 99999, 0), [])],
  [none, none, some (.iload_n 2, 1, (0, 99999, 0), []), some (.iconst 1, 1, (0, 99999, 0), []), some (.if_icmp .le 10, 3, (0, 99999, 0), []), none, none, some (.aload_n 0, 1, (0, 99999, 0), []), some (.bipush (-5), 2, (0, 99999, 0), []), none, some (.invokevirtual 216, 3, (3, 130, 1), [5153, 5155, 48, 1007]), none, none, some (.ireturn, 1, (0, 99999, 0), []), some (.aload_n 0, 1, (0, 99999, 0), []), some (.iload_n 1, 1, (0, 99999, 0), [])],
  [some (.invokevirtual 239, 3, (3, 177, 1), [5201, 5203, 57, 1007]), none, none, some (.iload_n 2, 1, (0, 99999, 0), []), some (.ifCond .ne 10, 3, (0, 99999, 0), []), none, none, some (.aload_n 0, 1, (0, 99999, 0), []), some (.getfield 230, 3, (1, 6, 36), [4133]), none, none, some (.goto 7, 3, (0, 99999, 0), []), none, none, some (.aload_n 0, 1, (0, 99999, 0), []), some (.getfield 233, 3, (1, 6, 37), [4134])],
  [none, none, some (.ireturn, 1, (0, 99999, 0), [])]])
def mX6_fails : ab_D := (yX6_fails, cX6_fails, 4, some .int, 6, 1, false, [
  [some (.iload_n 1, 1, (0, 99999, 0), []), some (.ifCond .lt 8, 3, (0, 99999, 0), []), none, none, some (.iload_n 1, 1, (0, 99999, 0), []), some (.iconst 1, 1, (0, 99999, 0), []), some (.if_icmp .le 10, 3, (0, 99999, 0), []), none, none, some (.aload_n 0, 1, (0, 99999, 0), []), some (.bipush (-5), 2, (0, 99999, 0), []), none, some (.invokevirtual 216, 3, (3, 130, 1), [5153, 5155, 48, 1007]), none, none, some (.ireturn, 1, (0, 99999, 0), [])],
  [some (.aload_n 0, 1, (0, 99999, 0), []), some (.aload_n 0, 1, (0, 99999, 0), []), some (.bipush 99, 2, (0, 99999, 0), []), none, some (.invokevirtual 145, 3, (3, 153, 1), [5097, 5099, 37, 1007]), none, none, some (.invokevirtual 219, 3, (3, 170, 1), [5157, 5159, 49, 1007]), none, none, some (.iconst 1, 1, (0, 99999, 0), []), some (.istore_n 2, 1, (0, 99999, 0), []), some (.iload_n 2, 1, (0, 99999, 0), []), some (.bipush 100, 2, (0, 99999, 0), []), none, some (.if_icmp .ge 65, 3, (0, 99999, 0), [])],
  [none, none, some (.aload_n 0, 1, (0, 99999, 0), []), some (.getfield 87, 3, (1, 6, 35), [4132]), none, none, some (.iload_n 2, 1, (0, 99999, 0), []), some (.iaload, 1, (0, 99999, 0), []), some (.iconst (-1), 1, (0, 99999, 0), []), some (.if_icmp .ne 6, 3, (0, 99999, 0), []), none, none, some (.goto 46, 3, (0, 99999, 0), []), none, none, some (.aload_n 0, 1, (0, 99999, 0), [])],
  [some (.iload_n 2, 1, (0, 99999, 0), []), some (.invokevirtual 213, 3, (3, 171, 1), [5173, 5175, 53, 1007]), none, none, some (.istore_n 3, 1, (0, 99999, 0), []), some (.iload_n 1, 1, (0, 99999, 0), []), some (.ifCond .ne 11, 3, (0, 99999, 0), []), none, none, some (.iload_n 3, 1, (0, 99999, 0), []), some (.iconst (-1), 1, (0, 99999, 0), []), some (.if_icmp .ne 31, 3, (0, 99999, 0), []), none, none, some (.goto 26, 3, (0, 99999, 0), []), none],
  [none, some (.iload_n 3, 1, (0, 99999, 0), []), some (.iconst (-1), 1, (0, 99999, 0), []), some (.if_icmp .eq 23, 3, (0, 99999, 0), []), none, none, some (.aload_n 0, 1, (0, 99999, 0), []), some (.iload_n 3, 1, (0, 99999, 0), []), some (.invokevirtual 207, 3, (3, 167, 1), [5165, 5167, 51, 1007]), none, none, some (.aload_n 0, 1, (0, 99999, 0), []), some (.aload_n 0, 1, (0, 99999, 0), []), some (.getfield 87, 3, (1, 6, 35), [4132]), none, none],
  [some (.iload_n 2, 1, (0, 99999, 0), []), some (.iaload, 1, (0, 99999, 0), []), some (.invokevirtual 207, 3, (3, 167, 1), [5165, 5167, 51, 1007]), none, none, some (.if_icmp .le 5, 3, (0, 99999, 0), []), none, none, some (.iload_n 2, 1, (0, 99999, 0), []), some (.ireturn, 1, (0, 99999, 0), []), some (.iinc 2 1, 3, (0, 99999, 0), []), none, none, some (.goto (-65), 3, (0, 99999, 0), []), none, none],
  [some (.iconst (-1), 1, (0, 99999, 0), []), some (.ireturn, 1, (0, 99999, 0), [])]])
def mX6_manyAmounts : ab_D := (yX6_manyAmounts, cX6_manyAmounts, 4, some .int, 6, 1, false, [
  [some (.iconst 0, 1, (0, 99999, 0), []), some (.istore_n 2, 1, (0, 99999, 0), []), some (.iconst 1, 1, (0, 99999, 0), []), some (.istore_n 3, 1, (0, 99999, 0), []), some (.iload_n 3, 1, (0, 99999, 0), []), some (.bipush 100, 2, (0, 99999, 0), []), none, some (.if_icmp .ge 34, 3, (0, 99999, 0), []), none, none, some (.iload_n 1, 1, (0, 99999, 0), []), some (.ifCond .eq 11, 3, (0, 99999, 0), []), none, none, some (.aload_n 0, 1, (0, 99999, 0), []), some (.iload_n 3, 1, (0, 99999, 0), [])],
  [some (.invokevirtual 213, 3, (3, 171, 1), [5173, 5175, 53, 1007]), none, none, some (.goto 9, 3, (0, 99999, 0), []), none, none, some (.aload_n 0, 1, (0, 99999, 0), []), some (.getfield 87, 3, (1, 6, 35), [4132]), none, none, some (.iload_n 3, 1, (0, 99999, 0), []), some (.iaload, 1, (0, 99999, 0), []), some (.iconst (-1), 1, (0, 99999, 0), []), some (.if_icmp .eq 6, 3, (0, 99999, 0), []), none, none],
  [some (.iinc 2 1, 3, (0, 99999, 0), []), none, none, some (.iinc 3 1, 3, (0, 99999, 0), []), none, none, some (.goto (-34), 3, (0, 99999, 0), []), none, none, some (.iload_n 2, 1, (0, 99999, 0), []), some (.ireturn, 1, (0, 99999, 0), [])]])
def mX6_amounts : ab_D := (yX6_amounts, cX6_amounts, 2, some .int, 6, 1, false, [
  [some (.iload_n 1, 1, (0, 99999, 0), []), some (.ifCond .lt 8, 3, (0, 99999, 0), []), none, none, some (.iload_n 1, 1, (0, 99999, 0), []), some (.iconst 1, 1, (0, 99999, 0), []), some (.if_icmp .le 10, 3, (0, 99999, 0), []), none, none, some (.aload_n 0, 1, (0, 99999, 0), []), some (.bipush (-5), 2, (0, 99999, 0), []), none, some (.invokevirtual 115, 3, (3, 129, 1), [5013, 5015, 29, 1007]), none, none, some (.ireturn, 1, (0, 99999, 0), [])],
  [some (.aload_n 0, 1, (0, 99999, 0), []), some (.aload_n 0, 1, (0, 99999, 0), []), some (.bipush 99, 2, (0, 99999, 0), []), none, some (.invokevirtual 145, 3, (3, 153, 1), [5097, 5099, 37, 1007]), none, none, some (.invokevirtual 219, 3, (3, 170, 1), [5157, 5159, 49, 1007]), none, none, some (.aload_n 0, 1, (0, 99999, 0), []), some (.iload_n 1, 1, (0, 99999, 0), []), some (.iconst 1, 1, (0, 99999, 0), []), some (.if_icmp .ne 7, 3, (0, 99999, 0), []), none, none],
  [some (.iconst 1, 1, (0, 99999, 0), []), some (.goto 4, 3, (0, 99999, 0), []), none, none, some (.iconst 0, 1, (0, 99999, 0), []), some (.invokevirtual 242, 3, (3, 181, 1), [5213, 5215, 58, 1007]), none, none, some (.ireturn, 1, (0, 99999, 0), [])]])
def mX6_throwsIn : ab_D := (yX6_throwsIn, cX6_throwsIn, 5, none, 6, 3, false, [
  [some (.aload_n 0, 1, (0, 99999, 0), []), some (.getfield 32, 3, (1, 6, 12), [4109]), none, none, some (.iload_n 1, 1, (0, 99999, 0), []), some (.dup2, 1, (0, 99999, 0), []), some (.iaload, 1, (0, 99999, 0), []), some (.iload_n 2, 1, (0, 99999, 0), []), some (.isub, 1, (0, 99999, 0), []), some (.iastore, 1, (0, 99999, 0), []), some (.aload_n 0, 1, (0, 99999, 0), []), some (.getfield 41, 3, (1, 6, 15), [4112]), none, none, some (.iload_n 1, 1, (0, 99999, 0), []), some (.dup2, 1, (0, 99999, 0), [])],
  [some (.iaload, 1, (0, 99999, 0), []), some (.iconst 1, 1, (0, 99999, 0), []), some (.iadd, 1, (0, 99999, 0), []), some (.iastore, 1, (0, 99999, 0), []), some (.aload_n 0, 1, (0, 99999, 0), []), some (.dup, 1, (0, 99999, 0), []), some (.getfield 188, 3, (1, 6, 3), [4100]), none, none, some (.iload_n 2, 1, (0, 99999, 0), []), some (.iadd, 1, (0, 99999, 0), []), some (.putfield 188, 3, (1, 6, 3), [4100]), none, none, some (.iconst 0, 1, (0, 99999, 0), []), some (.istore 4, 2, (0, 99999, 0), [])],
  [none, some (.iload 4, 2, (0, 99999, 0), []), none, some (.aload_n 0, 1, (0, 99999, 0), []), some (.getfield 105, 3, (1, 6, 0), [4097]), none, none, some (.if_icmp .ge 27, 3, (0, 99999, 0), []), none, none, some (.iload_n 3, 1, (0, 99999, 0), []), some (.iload 4, 2, (0, 99999, 0), []), none, some (.ishr, 1, (0, 99999, 0), []), some (.iconst 1, 1, (0, 99999, 0), []), some (.iand, 1, (0, 99999, 0), [])],
  [some (.iconst 1, 1, (0, 99999, 0), []), some (.if_icmp .ne 11, 3, (0, 99999, 0), []), none, none, some (.aload_n 0, 1, (0, 99999, 0), []), some (.getfield 29, 3, (1, 6, 11), [4108]), none, none, some (.iload 4, 2, (0, 99999, 0), []), none, some (.iload_n 1, 1, (0, 99999, 0), []), some (.iastore, 1, (0, 99999, 0), []), some (.iinc 4 1, 3, (0, 99999, 0), []), none, none, some (.goto (-30), 3, (0, 99999, 0), [])],
  [none, none, some (.return_, 1, (0, 99999, 0), [])]])
def mX6_runs : ab_D := (yX6_runs, cX6_runs, 7, none, 6, 3, false, [
  [some (.iload_n 1, 1, (0, 99999, 0), []), some (.aload_n 0, 1, (0, 99999, 0), []), some (.getfield 108, 3, (1, 6, 1), [4098]), none, none, some (.if_icmp .ne 50, 3, (0, 99999, 0), []), none, none, some (.iload_n 3, 1, (0, 99999, 0), []), some (.aload_n 0, 1, (0, 99999, 0), []), some (.getfield 246, 3, (1, 6, 42), [4139]), none, none, some (.if_icmp .gt 4, 3, (0, 99999, 0), []), none, none],
  [some (.return_, 1, (0, 99999, 0), []), some (.aload_n 0, 1, (0, 99999, 0), []), some (.iload_n 3, 1, (0, 99999, 0), []), some (.putfield 246, 3, (1, 6, 42), [4139]), none, none, some (.iconst 0, 1, (0, 99999, 0), []), some (.istore 4, 2, (0, 99999, 0), []), none, some (.iload 4, 2, (0, 99999, 0), []), none, some (.aload_n 0, 1, (0, 99999, 0), []), some (.getfield 108, 3, (1, 6, 1), [4098]), none, none, some (.if_icmp .ge 23, 3, (0, 99999, 0), [])],
  [none, none, some (.aload_n 0, 1, (0, 99999, 0), []), some (.getfield 93, 3, (1, 6, 39), [4136]), none, none, some (.iload 4, 2, (0, 99999, 0), []), none, some (.aload_n 0, 1, (0, 99999, 0), []), some (.getfield 90, 3, (1, 6, 38), [4135]), none, none, some (.iload 4, 2, (0, 99999, 0), []), none, some (.iaload, 1, (0, 99999, 0), []), some (.iastore, 1, (0, 99999, 0), [])],
  [some (.iinc 4 1, 3, (0, 99999, 0), []), none, none, some (.goto (-26), 3, (0, 99999, 0), []), none, none, some (.return_, 1, (0, 99999, 0), []), some (.aload_n 0, 1, (0, 99999, 0), []), some (.aload_n 0, 1, (0, 99999, 0), []), some (.getfield 32, 3, (1, 6, 12), [4109]), none, none, some (.bipush 6, 2, (0, 99999, 0), []), none, some (.aload_n 0, 1, (0, 99999, 0), []), some (.getfield 96, 3, (1, 6, 40), [4137])],
  [none, none, some (.bipush 6, 2, (0, 99999, 0), []), none, some (.iload_n 1, 1, (0, 99999, 0), []), some (.imul, 1, (0, 99999, 0), []), some (.iconst 0, 1, (0, 99999, 0), []), some (.invokevirtual 184, 3, (3, 163, 5), [5113, 5115, 40, 1007]), none, none, some (.pop, 1, (0, 99999, 0), []), some (.aload_n 0, 1, (0, 99999, 0), []), some (.aload_n 0, 1, (0, 99999, 0), []), some (.getfield 29, 3, (1, 6, 11), [4108]), none, none],
  [some (.bipush 9, 2, (0, 99999, 0), []), none, some (.aload_n 0, 1, (0, 99999, 0), []), some (.getfield 99, 3, (1, 6, 41), [4138]), none, none, some (.bipush 9, 2, (0, 99999, 0), []), none, some (.iload_n 1, 1, (0, 99999, 0), []), some (.imul, 1, (0, 99999, 0), []), some (.iconst 0, 1, (0, 99999, 0), []), some (.invokevirtual 184, 3, (3, 163, 5), [5113, 5115, 40, 1007]), none, none, some (.pop, 1, (0, 99999, 0), []), some (.iconst 0, 1, (0, 99999, 0), [])],
  [some (.istore 4, 2, (0, 99999, 0), []), none, some (.iload 4, 2, (0, 99999, 0), []), none, some (.aload_n 0, 1, (0, 99999, 0), []), some (.getfield 108, 3, (1, 6, 1), [4098]), none, none, some (.if_icmp .ge 142, 3, (0, 99999, 0), []), none, none, some (.iload_n 2, 1, (0, 99999, 0), []), some (.iload 4, 2, (0, 99999, 0), []), none, some (.ishr, 1, (0, 99999, 0), []), some (.iconst 1, 1, (0, 99999, 0), [])],
  [some (.iand, 1, (0, 99999, 0), []), some (.ifCond .ne 6, 3, (0, 99999, 0), []), none, none, some (.goto 124, 3, (0, 99999, 0), []), none, none, some (.aload_n 0, 1, (0, 99999, 0), []), some (.getfield 90, 3, (1, 6, 38), [4135]), none, none, some (.iload_n 1, 1, (0, 99999, 0), []), some (.iload 4, 2, (0, 99999, 0), []), none, some (.iastore, 1, (0, 99999, 0), []), some (.aload_n 0, 1, (0, 99999, 0), [])],
  [some (.iload 4, 2, (0, 99999, 0), []), none, some (.invokevirtual 239, 3, (3, 177, 1), [5201, 5203, 57, 1007]), none, none, some (.aload_n 0, 1, (0, 99999, 0), []), some (.getfield 230, 3, (1, 6, 36), [4133]), none, none, some (.iconst (-1), 1, (0, 99999, 0), []), some (.if_icmp .eq 7, 3, (0, 99999, 0), []), none, none, some (.iconst 1, 1, (0, 99999, 0), []), some (.goto 4, 3, (0, 99999, 0), []), none],
  [none, some (.iconst 0, 1, (0, 99999, 0), []), some (.istore 5, 2, (0, 99999, 0), []), none, some (.iload 5, 2, (0, 99999, 0), []), none, some (.ifCond .eq 25, 3, (0, 99999, 0), []), none, none, some (.aload_n 0, 1, (0, 99999, 0), []), some (.getfield 230, 3, (1, 6, 36), [4133]), none, none, some (.istore 6, 2, (0, 99999, 0), []), none, some (.aload_n 0, 1, (0, 99999, 0), [])],
  [some (.iload 4, 2, (0, 99999, 0), []), none, some (.iload 6, 2, (0, 99999, 0), []), none, some (.aload_n 0, 1, (0, 99999, 0), []), some (.iload 4, 2, (0, 99999, 0), []), none, some (.iload 6, 2, (0, 99999, 0), []), none, some (.invokevirtual 236, 3, (3, 176, 2), [5189, 5191, 55, 1007]), none, none, some (.invokevirtual 249, 3, (3, 183, 3), [5225, 5227, 60, 1007]), none, none, some (.aload_n 0, 1, (0, 99999, 0), [])],
  [some (.iload_n 1, 1, (0, 99999, 0), []), some (.iconst 1, 1, (0, 99999, 0), []), some (.iadd, 1, (0, 99999, 0), []), some (.iload_n 2, 1, (0, 99999, 0), []), some (.iconst 1, 1, (0, 99999, 0), []), some (.iload 4, 2, (0, 99999, 0), []), none, some (.ishl, 1, (0, 99999, 0), []), some (.isub, 1, (0, 99999, 0), []), some (.iload 5, 2, (0, 99999, 0), []), none, some (.ifCond .eq 9, 3, (0, 99999, 0), []), none, none, some (.iload_n 3, 1, (0, 99999, 0), []), some (.iconst 1, 1, (0, 99999, 0), [])],
  [some (.iadd, 1, (0, 99999, 0), []), some (.goto 4, 3, (0, 99999, 0), []), none, none, some (.iload_n 3, 1, (0, 99999, 0), []), some (.invokevirtual 253, 3, (3, 184, 3), [5221, 5223, 59, 1007]), none, none, some (.aload_n 0, 1, (0, 99999, 0), []), some (.aload_n 0, 1, (0, 99999, 0), []), some (.getfield 32, 3, (1, 6, 12), [4109]), none, none, some (.bipush 6, 2, (0, 99999, 0), []), none, some (.aload_n 0, 1, (0, 99999, 0), [])],
  [some (.getfield 96, 3, (1, 6, 40), [4137]), none, none, some (.bipush 6, 2, (0, 99999, 0), []), none, some (.iload_n 1, 1, (0, 99999, 0), []), some (.imul, 1, (0, 99999, 0), []), some (.iconst 1, 1, (0, 99999, 0), []), some (.invokevirtual 184, 3, (3, 163, 5), [5113, 5115, 40, 1007]), none, none, some (.pop, 1, (0, 99999, 0), []), some (.aload_n 0, 1, (0, 99999, 0), []), some (.aload_n 0, 1, (0, 99999, 0), []), some (.getfield 29, 3, (1, 6, 11), [4108]), none],
  [none, some (.bipush 9, 2, (0, 99999, 0), []), none, some (.aload_n 0, 1, (0, 99999, 0), []), some (.getfield 99, 3, (1, 6, 41), [4138]), none, none, some (.bipush 9, 2, (0, 99999, 0), []), none, some (.iload_n 1, 1, (0, 99999, 0), []), some (.imul, 1, (0, 99999, 0), []), some (.iconst 1, 1, (0, 99999, 0), []), some (.invokevirtual 184, 3, (3, 163, 5), [5113, 5115, 40, 1007]), none, none, some (.pop, 1, (0, 99999, 0), [])],
  [some (.iinc 4 1, 3, (0, 99999, 0), []), none, none, some (.goto (-145), 3, (0, 99999, 0), []), none, none, some (.return_, 1, (0, 99999, 0), [])]])
def mX6_run : ab_D := (yX6_run, cX6_run, 2, some .int, 6, 1, false, [
  [some (.aload_n 0, 1, (0, 99999, 0), []), some (.iload_n 1, 1, (0, 99999, 0), []), some (.iconst (-1), 1, (0, 99999, 0), []), some (.aload_n 0, 1, (0, 99999, 0), []), some (.getfield 108, 3, (1, 6, 1), [4098]), none, none, some (.iconst 1, 1, (0, 99999, 0), []), some (.isub, 1, (0, 99999, 0), []), some (.invokevirtual 128, 3, (3, 134, 3), [5057, 5059, 33, 1007]), none, none, some (.ifCond .ne 10, 3, (0, 99999, 0), []), none, none, some (.aload_n 0, 1, (0, 99999, 0), [])],
  [some (.bipush (-5), 2, (0, 99999, 0), []), none, some (.invokevirtual 115, 3, (3, 129, 1), [5013, 5015, 29, 1007]), none, none, some (.ireturn, 1, (0, 99999, 0), []), some (.aload_n 0, 1, (0, 99999, 0), []), some (.aload_n 0, 1, (0, 99999, 0), []), some (.getfield 84, 3, (1, 6, 34), [4131]), none, none, some (.iconst 0, 1, (0, 99999, 0), []), some (.invokevirtual 197, 3, (3, 164, 2), [5109, 5111, 39, 1007]), none, none, some (.aload_n 0, 1, (0, 99999, 0), [])],
  [some (.iconst (-1), 1, (0, 99999, 0), []), some (.putfield 246, 3, (1, 6, 42), [4139]), none, none, some (.aload_n 0, 1, (0, 99999, 0), []), some (.iconst 0, 1, (0, 99999, 0), []), some (.iconst 1, 1, (0, 99999, 0), []), some (.aload_n 0, 1, (0, 99999, 0), []), some (.getfield 108, 3, (1, 6, 1), [4098]), none, none, some (.ishl, 1, (0, 99999, 0), []), some (.iconst 1, 1, (0, 99999, 0), []), some (.isub, 1, (0, 99999, 0), []), some (.iconst 0, 1, (0, 99999, 0), []), some (.invokevirtual 253, 3, (3, 184, 3), [5221, 5223, 59, 1007])],
  [none, none, some (.aload_n 0, 1, (0, 99999, 0), []), some (.aload_n 0, 1, (0, 99999, 0), []), some (.getfield 84, 3, (1, 6, 34), [4131]), none, none, some (.iconst 1, 1, (0, 99999, 0), []), some (.invokevirtual 197, 3, (3, 164, 2), [5109, 5111, 39, 1007]), none, none, some (.iload_n 1, 1, (0, 99999, 0), []), some (.iconst (-1), 1, (0, 99999, 0), []), some (.if_icmp .ne 10, 3, (0, 99999, 0), []), none, none],
  [some (.aload_n 0, 1, (0, 99999, 0), []), some (.getfield 246, 3, (1, 6, 42), [4139]), none, none, some (.goto 9, 3, (0, 99999, 0), []), none, none, some (.aload_n 0, 1, (0, 99999, 0), []), some (.getfield 93, 3, (1, 6, 39), [4136]), none, none, some (.iload_n 1, 1, (0, 99999, 0), []), some (.iaload, 1, (0, 99999, 0), []), some (.ireturn, 1, (0, 99999, 0), [])]])
def mX6_barsOf : ab_D := (yX6_barsOf, cX6_barsOf, 6, some .int, 6, 4, false, [
  [some (.aload_n 0, 1, (0, 99999, 0), []), some (.iload_n 1, 1, (0, 99999, 0), []), some (.invokevirtual 194, 3, (3, 142, 1), [5105, 5107, 38, 1007]), none, none, some (.istore 5, 2, (0, 99999, 0), []), none, some (.iload 5, 2, (0, 99999, 0), []), none, some (.ifCond .eq 8, 3, (0, 99999, 0), []), none, none, some (.iload 5, 2, (0, 99999, 0), []), none, some (.goto 45, 3, (0, 99999, 0), []), none],
  [none, some (.iload_n 2, 1, (0, 99999, 0), []), some (.ifCond .ge 8, 3, (0, 99999, 0), []), none, none, some (.bipush (-4), 2, (0, 99999, 0), []), none, some (.goto 36, 3, (0, 99999, 0), []), none, none, some (.iload_n 2, 1, (0, 99999, 0), []), some (.aload_n 0, 1, (0, 99999, 0), []), some (.getfield 53, 3, (1, 6, 19), [4116]), none, none, some (.iload_n 1, 1, (0, 99999, 0), [])],
  [some (.iaload, 1, (0, 99999, 0), []), some (.iconst 2, 1, (0, 99999, 0), []), some (.idiv, 1, (0, 99999, 0), []), some (.if_icmp .gt 8, 3, (0, 99999, 0), []), none, none, some (.iload 4, 2, (0, 99999, 0), []), none, some (.ifCond .ne 8, 3, (0, 99999, 0), []), none, none, some (.bipush (-5), 2, (0, 99999, 0), []), none, some (.goto 14, 3, (0, 99999, 0), []), none, none],
  [some (.iload_n 2, 1, (0, 99999, 0), []), some (.iload_n 3, 1, (0, 99999, 0), []), some (.if_icmp .le 8, 3, (0, 99999, 0), []), none, none, some (.bipush (-6), 2, (0, 99999, 0), []), none, some (.goto 4, 3, (0, 99999, 0), []), none, none, some (.iconst 0, 1, (0, 99999, 0), []), some (.ireturn, 1, (0, 99999, 0), [])]])
def mX6_rules : ab_D := (yX6_rules, cX6_rules, 8, some .int, 6, 2, false, [
  [some (.aload_n 0, 1, (0, 99999, 0), []), some (.iload_n 1, 1, (0, 99999, 0), []), some (.iload_n 2, 1, (0, 99999, 0), []), some (.bipush 40, 2, (0, 99999, 0), []), none, some (.iconst 1, 1, (0, 99999, 0), []), some (.invokevirtual 256, 3, (3, 186, 4), [5233, 5235, 61, 1007]), none, none, some (.istore_n 3, 1, (0, 99999, 0), []), some (.iconst 0, 1, (0, 99999, 0), []), some (.istore 4, 2, (0, 99999, 0), []), none, some (.iload 4, 2, (0, 99999, 0), []), none, some (.iload_n 2, 1, (0, 99999, 0), [])],
  [some (.if_icmp .ge 35, 3, (0, 99999, 0), []), none, none, some (.iload_n 3, 1, (0, 99999, 0), []), some (.ifCond .ne 31, 3, (0, 99999, 0), []), none, none, some (.aload_n 0, 1, (0, 99999, 0), []), some (.aload_n 0, 1, (0, 99999, 0), []), some (.iload_n 1, 1, (0, 99999, 0), []), some (.iconst 2, 1, (0, 99999, 0), []), some (.iload 4, 2, (0, 99999, 0), []), none, some (.imul, 1, (0, 99999, 0), []), some (.invokevirtual 260, 3, (3, 143, 2), [5237, 5239, 62, 1007]), none],
  [none, some (.iconst 0, 1, (0, 99999, 0), []), some (.bipush 99, 2, (0, 99999, 0), []), none, some (.invokevirtual 128, 3, (3, 134, 3), [5057, 5059, 33, 1007]), none, none, some (.ifCond .ne 6, 3, (0, 99999, 0), []), none, none, some (.bipush (-6), 2, (0, 99999, 0), []), none, some (.istore_n 3, 1, (0, 99999, 0), []), some (.iinc 4 1, 3, (0, 99999, 0), []), none, none],
  [some (.goto (-35), 3, (0, 99999, 0), []), none, none, some (.iload_n 3, 1, (0, 99999, 0), []), some (.ifCond .eq 9, 3, (0, 99999, 0), []), none, none, some (.aload_n 0, 1, (0, 99999, 0), []), some (.iload_n 3, 1, (0, 99999, 0), []), some (.invokevirtual 115, 3, (3, 129, 1), [5013, 5015, 29, 1007]), none, none, some (.ireturn, 1, (0, 99999, 0), []), some (.aload_n 0, 1, (0, 99999, 0), []), some (.aload_n 0, 1, (0, 99999, 0), []), some (.bipush 99, 2, (0, 99999, 0), [])],
  [none, some (.invokevirtual 145, 3, (3, 153, 1), [5097, 5099, 37, 1007]), none, none, some (.invokevirtual 219, 3, (3, 170, 1), [5157, 5159, 49, 1007]), none, none, some (.iconst 3, 1, (0, 99999, 0), []), some (.istore 4, 2, (0, 99999, 0), []), none, some (.iconst 0, 1, (0, 99999, 0), []), some (.istore 5, 2, (0, 99999, 0), []), none, some (.iload 5, 2, (0, 99999, 0), []), none, some (.iload_n 2, 1, (0, 99999, 0), [])],
  [some (.if_icmp .ge 68, 3, (0, 99999, 0), []), none, none, some (.aload_n 0, 1, (0, 99999, 0), []), some (.iload_n 1, 1, (0, 99999, 0), []), some (.iconst 2, 1, (0, 99999, 0), []), some (.iload 5, 2, (0, 99999, 0), []), none, some (.imul, 1, (0, 99999, 0), []), some (.invokevirtual 260, 3, (3, 143, 2), [5237, 5239, 62, 1007]), none, none, some (.istore 6, 2, (0, 99999, 0), []), none, some (.aload_n 0, 1, (0, 99999, 0), []), some (.iload_n 1, 1, (0, 99999, 0), [])],
  [some (.iconst 2, 1, (0, 99999, 0), []), some (.iload 5, 2, (0, 99999, 0), []), none, some (.imul, 1, (0, 99999, 0), []), some (.iconst 1, 1, (0, 99999, 0), []), some (.iadd, 1, (0, 99999, 0), []), some (.invokevirtual 260, 3, (3, 143, 2), [5237, 5239, 62, 1007]), none, none, some (.istore 7, 2, (0, 99999, 0), []), none, some (.aload_n 0, 1, (0, 99999, 0), []), some (.getfield 87, 3, (1, 6, 35), [4132]), none, none, some (.iload 6, 2, (0, 99999, 0), [])],
  [none, some (.iaload, 1, (0, 99999, 0), []), some (.iload 7, 2, (0, 99999, 0), []), none, some (.if_icmp .eq 9, 3, (0, 99999, 0), []), none, none, some (.iload 4, 2, (0, 99999, 0), []), none, some (.iconst 2, 1, (0, 99999, 0), []), some (.iand, 1, (0, 99999, 0), []), some (.istore 4, 2, (0, 99999, 0), []), none, some (.aload_n 0, 1, (0, 99999, 0), []), some (.iload 6, 2, (0, 99999, 0), []), none],
  [some (.invokevirtual 213, 3, (3, 171, 1), [5173, 5175, 53, 1007]), none, none, some (.iload 7, 2, (0, 99999, 0), []), none, some (.if_icmp .eq 9, 3, (0, 99999, 0), []), none, none, some (.iload 4, 2, (0, 99999, 0), []), none, some (.iconst 1, 1, (0, 99999, 0), []), some (.iand, 1, (0, 99999, 0), []), some (.istore 4, 2, (0, 99999, 0), []), none, some (.iinc 5 1, 3, (0, 99999, 0), []), none],
  [none, some (.goto (-68), 3, (0, 99999, 0), []), none, none, some (.iload 4, 2, (0, 99999, 0), []), none, some (.ireturn, 1, (0, 99999, 0), [])]])
def mX6_costs : ab_D := (yX6_costs, cX6_costs, 12, some .int, 6, 4, false, [
  [some (.aload_n 0, 1, (0, 99999, 0), []), some (.iload_n 3, 1, (0, 99999, 0), []), some (.iconst 0, 1, (0, 99999, 0), []), some (.bipush 7, 2, (0, 99999, 0), []), none, some (.invokevirtual 128, 3, (3, 134, 3), [5057, 5059, 33, 1007]), none, none, some (.ifCond .ne 7, 3, (0, 99999, 0), []), none, none, some (.iconst (-1), 1, (0, 99999, 0), []), some (.goto 27, 3, (0, 99999, 0), []), none, none, some (.aload_n 0, 1, (0, 99999, 0), [])],
  [some (.iload_n 1, 1, (0, 99999, 0), []), some (.iload_n 2, 1, (0, 99999, 0), []), some (.bipush 40, 2, (0, 99999, 0), []), none, some (.iload 4, 2, (0, 99999, 0), []), none, some (.ifCond .eq 9, 3, (0, 99999, 0), []), none, none, some (.iload 4, 2, (0, 99999, 0), []), none, some (.iconst 1, 1, (0, 99999, 0), []), some (.if_icmp .ne 7, 3, (0, 99999, 0), []), none, none, some (.iconst 1, 1, (0, 99999, 0), [])],
  [some (.goto 4, 3, (0, 99999, 0), []), none, none, some (.iconst 0, 1, (0, 99999, 0), []), some (.invokevirtual 256, 3, (3, 186, 4), [5233, 5235, 61, 1007]), none, none, some (.istore 5, 2, (0, 99999, 0), []), none, some (.iconst 0, 1, (0, 99999, 0), []), some (.istore 6, 2, (0, 99999, 0), []), none, some (.iload 6, 2, (0, 99999, 0), []), none, some (.iload_n 2, 1, (0, 99999, 0), []), some (.if_icmp .ge 33, 3, (0, 99999, 0), [])],
  [none, none, some (.iload 5, 2, (0, 99999, 0), []), none, some (.ifCond .ne 28, 3, (0, 99999, 0), []), none, none, some (.aload_n 0, 1, (0, 99999, 0), []), some (.aload_n 0, 1, (0, 99999, 0), []), some (.iload_n 1, 1, (0, 99999, 0), []), some (.iconst 2, 1, (0, 99999, 0), []), some (.iload 6, 2, (0, 99999, 0), []), none, some (.imul, 1, (0, 99999, 0), []), some (.invokevirtual 260, 3, (3, 143, 2), [5237, 5239, 62, 1007]), none],
  [none, some (.invokevirtual 142, 3, (3, 133, 1), [5085, 5087, 36, 1007]), none, none, some (.ifCond .ne 6, 3, (0, 99999, 0), []), none, none, some (.iconst (-1), 1, (0, 99999, 0), []), some (.istore 5, 2, (0, 99999, 0), []), none, some (.iinc 6 1, 3, (0, 99999, 0), []), none, none, some (.goto (-33), 3, (0, 99999, 0), []), none, none],
  [some (.iload 5, 2, (0, 99999, 0), []), none, some (.ifCond .eq 10, 3, (0, 99999, 0), []), none, none, some (.aload_n 0, 1, (0, 99999, 0), []), some (.iload 5, 2, (0, 99999, 0), []), none, some (.invokevirtual 216, 3, (3, 130, 1), [5153, 5155, 48, 1007]), none, none, some (.ireturn, 1, (0, 99999, 0), []), some (.aload_n 0, 1, (0, 99999, 0), []), some (.getfield 44, 3, (1, 6, 16), [4113]), none, none],
  [some (.iload_n 3, 1, (0, 99999, 0), []), some (.iaload, 1, (0, 99999, 0), []), some (.istore 6, 2, (0, 99999, 0), []), none, some (.iconst 0, 1, (0, 99999, 0), []), some (.istore 7, 2, (0, 99999, 0), []), none, some (.iconst (-1), 1, (0, 99999, 0), []), some (.istore 8, 2, (0, 99999, 0), []), none, some (.bipush 60, 2, (0, 99999, 0), []), none, some (.istore 9, 2, (0, 99999, 0), []), none, some (.iload 9, 2, (0, 99999, 0), []), none],
  [some (.iconst 1, 1, (0, 99999, 0), []), some (.if_icmp .lt 90, 3, (0, 99999, 0), []), none, none, some (.aload_n 0, 1, (0, 99999, 0), []), some (.getfield 44, 3, (1, 6, 16), [4113]), none, none, some (.iload_n 3, 1, (0, 99999, 0), []), some (.iload 9, 2, (0, 99999, 0), []), none, some (.iastore, 1, (0, 99999, 0), []), some (.iconst 1, 1, (0, 99999, 0), []), some (.istore 10, 2, (0, 99999, 0), []), none, some (.iconst 0, 1, (0, 99999, 0), [])],
  [some (.istore 11, 2, (0, 99999, 0), []), none, some (.iload 11, 2, (0, 99999, 0), []), none, some (.iload_n 2, 1, (0, 99999, 0), []), some (.if_icmp .ge 49, 3, (0, 99999, 0), []), none, none, some (.iload 10, 2, (0, 99999, 0), []), none, some (.ifCond .eq 44, 3, (0, 99999, 0), []), none, none, some (.aload_n 0, 1, (0, 99999, 0), []), some (.aload_n 0, 1, (0, 99999, 0), []), some (.iload_n 1, 1, (0, 99999, 0), [])],
  [some (.iconst 2, 1, (0, 99999, 0), []), some (.iload 11, 2, (0, 99999, 0), []), none, some (.imul, 1, (0, 99999, 0), []), some (.invokevirtual 260, 3, (3, 143, 2), [5237, 5239, 62, 1007]), none, none, some (.iload_n 3, 1, (0, 99999, 0), []), some (.invokevirtual 223, 3, (3, 174, 2), [5181, 5183, 54, 1007]), none, none, some (.aload_n 0, 1, (0, 99999, 0), []), some (.iload_n 1, 1, (0, 99999, 0), []), some (.iconst 2, 1, (0, 99999, 0), []), some (.iload 11, 2, (0, 99999, 0), []), none],
  [some (.imul, 1, (0, 99999, 0), []), some (.iconst 1, 1, (0, 99999, 0), []), some (.iadd, 1, (0, 99999, 0), []), some (.invokevirtual 260, 3, (3, 143, 2), [5237, 5239, 62, 1007]), none, none, some (.if_icmp .ne 7, 3, (0, 99999, 0), []), none, none, some (.iconst 1, 1, (0, 99999, 0), []), some (.goto 4, 3, (0, 99999, 0), []), none, none, some (.iconst 0, 1, (0, 99999, 0), []), some (.istore 10, 2, (0, 99999, 0), []), none],
  [some (.iinc 11 1, 3, (0, 99999, 0), []), none, none, some (.goto (-49), 3, (0, 99999, 0), []), none, none, some (.iload 10, 2, (0, 99999, 0), []), none, some (.ifCond .ne 6, 3, (0, 99999, 0), []), none, none, some (.goto 10, 3, (0, 99999, 0), []), none, none, some (.iinc 7 1, 3, (0, 99999, 0), []), none],
  [none, some (.iload 9, 2, (0, 99999, 0), []), none, some (.istore 8, 2, (0, 99999, 0), []), none, some (.iinc 9 (-1), 3, (0, 99999, 0), []), none, none, some (.goto (-90), 3, (0, 99999, 0), []), none, none, some (.aload_n 0, 1, (0, 99999, 0), []), some (.getfield 44, 3, (1, 6, 16), [4113]), none, none, some (.iload_n 3, 1, (0, 99999, 0), [])],
  [some (.iload 6, 2, (0, 99999, 0), []), none, some (.iastore, 1, (0, 99999, 0), []), some (.iload 4, 2, (0, 99999, 0), []), none, some (.ifCond .ne 8, 3, (0, 99999, 0), []), none, none, some (.iload 7, 2, (0, 99999, 0), []), none, some (.goto 5, 3, (0, 99999, 0), []), none, none, some (.iload 8, 2, (0, 99999, 0), []), none, some (.ireturn, 1, (0, 99999, 0), [])]])
def mX6_dearest : ab_D := (yX6_dearest, cX6_dearest, 6, some .int, 6, 0, false, [
  [some (.aload_n 0, 1, (0, 99999, 0), []), some (.bipush 99, 2, (0, 99999, 0), []), none, some (.invokevirtual 145, 3, (3, 153, 1), [5097, 5099, 37, 1007]), none, none, some (.istore_n 1, 1, (0, 99999, 0), []), some (.iconst (-1), 1, (0, 99999, 0), []), some (.istore_n 2, 1, (0, 99999, 0), []), some (.iconst 0, 1, (0, 99999, 0), []), some (.istore_n 3, 1, (0, 99999, 0), []), some (.iconst 0, 1, (0, 99999, 0), []), some (.istore 4, 2, (0, 99999, 0), []), none, some (.iload 4, 2, (0, 99999, 0), []), none],
  [some (.aload_n 0, 1, (0, 99999, 0), []), some (.getfield 105, 3, (1, 6, 0), [4097]), none, none, some (.if_icmp .ge 58, 3, (0, 99999, 0), []), none, none, some (.iload_n 1, 1, (0, 99999, 0), []), some (.iload 4, 2, (0, 99999, 0), []), none, some (.ishr, 1, (0, 99999, 0), []), some (.iconst 1, 1, (0, 99999, 0), []), some (.iand, 1, (0, 99999, 0), []), some (.ifCond .ne 6, 3, (0, 99999, 0), []), none, none],
  [some (.goto 40, 3, (0, 99999, 0), []), none, none, some (.aload_n 0, 1, (0, 99999, 0), []), some (.iload_n 1, 1, (0, 99999, 0), []), some (.iconst 1, 1, (0, 99999, 0), []), some (.iload 4, 2, (0, 99999, 0), []), none, some (.ishl, 1, (0, 99999, 0), []), some (.isub, 1, (0, 99999, 0), []), some (.invokevirtual 219, 3, (3, 170, 1), [5157, 5159, 49, 1007]), none, none, some (.aload_n 0, 1, (0, 99999, 0), []), some (.iconst 0, 1, (0, 99999, 0), []), some (.invokevirtual 242, 3, (3, 181, 1), [5213, 5215, 58, 1007])],
  [none, none, some (.istore 5, 2, (0, 99999, 0), []), none, some (.iload_n 2, 1, (0, 99999, 0), []), some (.iconst (-1), 1, (0, 99999, 0), []), some (.if_icmp .eq 12, 3, (0, 99999, 0), []), none, none, some (.iload 5, 2, (0, 99999, 0), []), none, some (.iload_n 3, 1, (0, 99999, 0), []), some (.if_icmp .lt 6, 3, (0, 99999, 0), []), none, none, some (.goto 9, 3, (0, 99999, 0), [])],
  [none, none, some (.iload 4, 2, (0, 99999, 0), []), none, some (.istore_n 2, 1, (0, 99999, 0), []), some (.iload 5, 2, (0, 99999, 0), []), none, some (.istore_n 3, 1, (0, 99999, 0), []), some (.iinc 4 1, 3, (0, 99999, 0), []), none, none, some (.goto (-61), 3, (0, 99999, 0), []), none, none, some (.iload_n 2, 1, (0, 99999, 0), []), some (.ireturn, 1, (0, 99999, 0), [])]])
def mX6_wanting : ab_D := (yX6_wanting, cX6_wanting, 4, some .int, 6, 1, false, [
  [some (.iconst 0, 1, (0, 99999, 0), []), some (.istore_n 2, 1, (0, 99999, 0), []), some (.iconst 0, 1, (0, 99999, 0), []), some (.istore_n 3, 1, (0, 99999, 0), []), some (.iload_n 3, 1, (0, 99999, 0), []), some (.aload_n 0, 1, (0, 99999, 0), []), some (.getfield 108, 3, (1, 6, 1), [4098]), none, none, some (.if_icmp .ge 22, 3, (0, 99999, 0), []), none, none, some (.aload_n 0, 1, (0, 99999, 0), []), some (.getfield 38, 3, (1, 6, 14), [4111]), none, none],
  [some (.iload_n 3, 1, (0, 99999, 0), []), some (.iaload, 1, (0, 99999, 0), []), some (.iload_n 1, 1, (0, 99999, 0), []), some (.if_icmp .ne 6, 3, (0, 99999, 0), []), none, none, some (.iinc 2 1, 3, (0, 99999, 0), []), none, none, some (.iinc 3 1, 3, (0, 99999, 0), []), none, none, some (.goto (-24), 3, (0, 99999, 0), []), none, none, some (.iload_n 2, 1, (0, 99999, 0), [])],
  [some (.ireturn, 1, (0, 99999, 0), [])]])
def mX6_dear : ab_D := (yX6_dear, cX6_dear, 4, some .int, 6, 1, false, [
  [some (.iload_n 1, 1, (0, 99999, 0), []), some (.ifCond .lt 8, 3, (0, 99999, 0), []), none, none, some (.iload_n 1, 1, (0, 99999, 0), []), some (.iconst 1, 1, (0, 99999, 0), []), some (.if_icmp .le 10, 3, (0, 99999, 0), []), none, none, some (.aload_n 0, 1, (0, 99999, 0), []), some (.bipush (-5), 2, (0, 99999, 0), []), none, some (.invokevirtual 216, 3, (3, 130, 1), [5153, 5155, 48, 1007]), none, none, some (.ireturn, 1, (0, 99999, 0), [])],
  [some (.iload_n 1, 1, (0, 99999, 0), []), some (.ifCond .ne 8, 3, (0, 99999, 0), []), none, none, some (.aload_n 0, 1, (0, 99999, 0), []), some (.invokevirtual 263, 3, (3, 189, 0), [6009, 6011, 63, 1007]), none, none, some (.ireturn, 1, (0, 99999, 0), []), some (.aload_n 0, 1, (0, 99999, 0), []), some (.getfield 108, 3, (1, 6, 1), [4098]), none, none, some (.ifCond .ne 7, 3, (0, 99999, 0), []), none, none],
  [some (.iconst (-1), 1, (0, 99999, 0), []), some (.goto 4, 3, (0, 99999, 0), []), none, none, some (.iconst 0, 1, (0, 99999, 0), []), some (.istore_n 2, 1, (0, 99999, 0), []), some (.iconst 1, 1, (0, 99999, 0), []), some (.istore_n 3, 1, (0, 99999, 0), []), some (.iload_n 3, 1, (0, 99999, 0), []), some (.bipush 7, 2, (0, 99999, 0), []), none, some (.if_icmp .gt 32, 3, (0, 99999, 0), []), none, none, some (.aload_n 0, 1, (0, 99999, 0), []), some (.iload_n 3, 1, (0, 99999, 0), [])],
  [some (.invokevirtual 266, 3, (3, 190, 1), [6013, 6015, 64, 1007]), none, none, some (.aload_n 0, 1, (0, 99999, 0), []), some (.iload_n 2, 1, (0, 99999, 0), []), some (.ifCond .ge 7, 3, (0, 99999, 0), []), none, none, some (.iload_n 3, 1, (0, 99999, 0), []), some (.goto 4, 3, (0, 99999, 0), []), none, none, some (.iload_n 2, 1, (0, 99999, 0), []), some (.invokevirtual 266, 3, (3, 190, 1), [6013, 6015, 64, 1007]), none, none],
  [some (.if_icmp .le 5, 3, (0, 99999, 0), []), none, none, some (.iload_n 3, 1, (0, 99999, 0), []), some (.istore_n 2, 1, (0, 99999, 0), []), some (.iinc 3 1, 3, (0, 99999, 0), []), none, none, some (.goto (-32), 3, (0, 99999, 0), []), none, none, some (.iload_n 2, 1, (0, 99999, 0), []), some (.ireturn, 1, (0, 99999, 0), [])]])
def mX6_rich : ab_D := (yX6_rich, cX6_rich, 2, some .int, 6, 1, false, [
  [some (.aload_n 0, 1, (0, 99999, 0), []), some (.iload_n 1, 1, (0, 99999, 0), []), some (.invokevirtual 142, 3, (3, 133, 1), [5085, 5087, 36, 1007]), none, none, some (.ifCond .ne 13, 3, (0, 99999, 0), []), none, none, some (.aload_n 0, 1, (0, 99999, 0), []), some (.iconst (-1), 1, (0, 99999, 0), []), some (.invokevirtual 115, 3, (3, 129, 1), [5013, 5015, 29, 1007]), none, none, some (.sipush 1000, 3, (0, 99999, 0), []), none, none],
  [some (.isub, 1, (0, 99999, 0), []), some (.ireturn, 1, (0, 99999, 0), []), some (.aload_n 0, 1, (0, 99999, 0), []), some (.aload_n 0, 1, (0, 99999, 0), []), some (.iload_n 1, 1, (0, 99999, 0), []), some (.invokevirtual 145, 3, (3, 153, 1), [5097, 5099, 37, 1007]), none, none, some (.invokevirtual 204, 3, (3, 168, 1), [5161, 5163, 50, 1007]), none, none, some (.aload_n 0, 1, (0, 99999, 0), []), some (.getfield 32, 3, (1, 6, 12), [4109]), none, none, some (.iload_n 1, 1, (0, 99999, 0), [])],
  [some (.iaload, 1, (0, 99999, 0), []), some (.iadd, 1, (0, 99999, 0), []), some (.aload_n 0, 1, (0, 99999, 0), []), some (.aload_n 0, 1, (0, 99999, 0), []), some (.iload_n 1, 1, (0, 99999, 0), []), some (.invokevirtual 145, 3, (3, 153, 1), [5097, 5099, 37, 1007]), none, none, some (.invokevirtual 210, 3, (3, 169, 1), [5169, 5171, 52, 1007]), none, none, some (.isub, 1, (0, 99999, 0), []), some (.ireturn, 1, (0, 99999, 0), [])]])
def mX6_goes : ab_D := (yX6_goes, cX6_goes, 7, some .int, 6, 2, false, [
  [some (.aload_n 0, 1, (0, 99999, 0), []), some (.iconst 0, 1, (0, 99999, 0), []), some (.putfield 269, 3, (1, 6, 43), [4140]), none, none, some (.aload_n 0, 1, (0, 99999, 0), []), some (.iconst 0, 1, (0, 99999, 0), []), some (.putfield 272, 3, (1, 6, 44), [4141]), none, none, some (.aload_n 0, 1, (0, 99999, 0), []), some (.iconst 0, 1, (0, 99999, 0), []), some (.putfield 275, 3, (1, 6, 45), [4142]), none, none, some (.iconst 0, 1, (0, 99999, 0), [])],
  [some (.istore_n 3, 1, (0, 99999, 0), []), some (.iload_n 3, 1, (0, 99999, 0), []), some (.iload_n 2, 1, (0, 99999, 0), []), some (.if_icmp .ge 130, 3, (0, 99999, 0), []), none, none, some (.aload_n 0, 1, (0, 99999, 0), []), some (.iload_n 1, 1, (0, 99999, 0), []), some (.iconst 2, 1, (0, 99999, 0), []), some (.iload_n 3, 1, (0, 99999, 0), []), some (.imul, 1, (0, 99999, 0), []), some (.invokevirtual 260, 3, (3, 143, 2), [5237, 5239, 62, 1007]), none, none, some (.istore 4, 2, (0, 99999, 0), []), none],
  [some (.aload_n 0, 1, (0, 99999, 0), []), some (.iload_n 1, 1, (0, 99999, 0), []), some (.iconst 2, 1, (0, 99999, 0), []), some (.iload_n 3, 1, (0, 99999, 0), []), some (.imul, 1, (0, 99999, 0), []), some (.iconst 1, 1, (0, 99999, 0), []), some (.iadd, 1, (0, 99999, 0), []), some (.invokevirtual 260, 3, (3, 143, 2), [5237, 5239, 62, 1007]), none, none, some (.istore 5, 2, (0, 99999, 0), []), none, some (.aload_n 0, 1, (0, 99999, 0), []), some (.aload_n 0, 1, (0, 99999, 0), []), some (.bipush 99, 2, (0, 99999, 0), []), none],
  [some (.invokevirtual 145, 3, (3, 153, 1), [5097, 5099, 37, 1007]), none, none, some (.invokevirtual 219, 3, (3, 170, 1), [5157, 5159, 49, 1007]), none, none, some (.aload_n 0, 1, (0, 99999, 0), []), some (.iload 4, 2, (0, 99999, 0), []), none, some (.invokevirtual 142, 3, (3, 133, 1), [5085, 5087, 36, 1007]), none, none, some (.ifCond .eq 26, 3, (0, 99999, 0), []), none, none, some (.aload_n 0, 1, (0, 99999, 0), [])],
  [some (.iload 5, 2, (0, 99999, 0), []), none, some (.iconst 0, 1, (0, 99999, 0), []), some (.bipush 99, 2, (0, 99999, 0), []), none, some (.invokevirtual 128, 3, (3, 134, 3), [5057, 5059, 33, 1007]), none, none, some (.ifCond .eq 14, 3, (0, 99999, 0), []), none, none, some (.aload_n 0, 1, (0, 99999, 0), []), some (.iload 4, 2, (0, 99999, 0), []), none, some (.iload 5, 2, (0, 99999, 0), []), none],
  [some (.invokevirtual 236, 3, (3, 176, 2), [5189, 5191, 55, 1007]), none, none, some (.goto 4, 3, (0, 99999, 0), []), none, none, some (.iconst (-1), 1, (0, 99999, 0), []), some (.istore 6, 2, (0, 99999, 0), []), none, some (.iload 6, 2, (0, 99999, 0), []), none, some (.iconst (-1), 1, (0, 99999, 0), []), some (.if_icmp .ne 5, 3, (0, 99999, 0), []), none, none, some (.iload_n 3, 1, (0, 99999, 0), [])],
  [some (.ireturn, 1, (0, 99999, 0), []), some (.aload_n 0, 1, (0, 99999, 0), []), some (.dup, 1, (0, 99999, 0), []), some (.getfield 269, 3, (1, 6, 43), [4140]), none, none, some (.iconst 1, 1, (0, 99999, 0), []), some (.iadd, 1, (0, 99999, 0), []), some (.putfield 269, 3, (1, 6, 43), [4140]), none, none, some (.aload_n 0, 1, (0, 99999, 0), []), some (.dup, 1, (0, 99999, 0), []), some (.getfield 272, 3, (1, 6, 44), [4141]), none, none],
  [some (.aload_n 0, 1, (0, 99999, 0), []), some (.iload 6, 2, (0, 99999, 0), []), none, some (.invokevirtual 210, 3, (3, 169, 1), [5169, 5171, 52, 1007]), none, none, some (.iadd, 1, (0, 99999, 0), []), some (.putfield 272, 3, (1, 6, 44), [4141]), none, none, some (.aload_n 0, 1, (0, 99999, 0), []), some (.dup, 1, (0, 99999, 0), []), some (.getfield 275, 3, (1, 6, 45), [4142]), none, none, some (.iload 5, 2, (0, 99999, 0), [])],
  [none, some (.iadd, 1, (0, 99999, 0), []), some (.putfield 275, 3, (1, 6, 45), [4142]), none, none, some (.aload_n 0, 1, (0, 99999, 0), []), some (.iload 4, 2, (0, 99999, 0), []), none, some (.iload 5, 2, (0, 99999, 0), []), none, some (.iload 6, 2, (0, 99999, 0), []), none, some (.invokevirtual 249, 3, (3, 183, 3), [5225, 5227, 60, 1007]), none, none, some (.iinc 3 1, 3, (0, 99999, 0), [])],
  [none, none, some (.goto (-129), 3, (0, 99999, 0), []), none, none, some (.iconst (-1), 1, (0, 99999, 0), []), some (.ireturn, 1, (0, 99999, 0), [])]])
def mX6_judge : ab_D := (yX6_judge, cX6_judge, 5, some .int, 6, 2, false, [
  [some (.aload_n 0, 1, (0, 99999, 0), []), some (.iload_n 1, 1, (0, 99999, 0), []), some (.iload_n 2, 1, (0, 99999, 0), []), some (.bipush 20, 2, (0, 99999, 0), []), none, some (.iconst 1, 1, (0, 99999, 0), []), some (.invokevirtual 256, 3, (3, 186, 4), [5233, 5235, 61, 1007]), none, none, some (.istore_n 3, 1, (0, 99999, 0), []), some (.iload_n 3, 1, (0, 99999, 0), []), some (.ifCond .eq 9, 3, (0, 99999, 0), []), none, none, some (.aload_n 0, 1, (0, 99999, 0), []), some (.iload_n 3, 1, (0, 99999, 0), [])],
  [some (.invokevirtual 216, 3, (3, 130, 1), [5153, 5155, 48, 1007]), none, none, some (.ireturn, 1, (0, 99999, 0), []), some (.aload_n 0, 1, (0, 99999, 0), []), some (.aload_n 0, 1, (0, 99999, 0), []), some (.getfield 84, 3, (1, 6, 34), [4131]), none, none, some (.iconst 0, 1, (0, 99999, 0), []), some (.invokevirtual 197, 3, (3, 164, 2), [5109, 5111, 39, 1007]), none, none, some (.aload_n 0, 1, (0, 99999, 0), []), some (.iload_n 1, 1, (0, 99999, 0), []), some (.iload_n 2, 1, (0, 99999, 0), [])],
  [some (.invokevirtual 278, 3, (3, 193, 2), [6025, 6027, 65, 1007]), none, none, some (.istore 4, 2, (0, 99999, 0), []), none, some (.aload_n 0, 1, (0, 99999, 0), []), some (.aload_n 0, 1, (0, 99999, 0), []), some (.getfield 84, 3, (1, 6, 34), [4131]), none, none, some (.iconst 1, 1, (0, 99999, 0), []), some (.invokevirtual 197, 3, (3, 164, 2), [5109, 5111, 39, 1007]), none, none, some (.iload 4, 2, (0, 99999, 0), []), none],
  [some (.ireturn, 1, (0, 99999, 0), [])]])
def mX6_behind : ab_D := (yX6_behind, cX6_behind, 6, some .int, 6, 3, false, [
  [some (.aload_n 0, 1, (0, 99999, 0), []), some (.iload_n 1, 1, (0, 99999, 0), []), some (.iload_n 2, 1, (0, 99999, 0), []), some (.bipush 20, 2, (0, 99999, 0), []), none, some (.iload_n 3, 1, (0, 99999, 0), []), some (.ifCond .lt 12, 3, (0, 99999, 0), []), none, none, some (.iload_n 3, 1, (0, 99999, 0), []), some (.iconst 2, 1, (0, 99999, 0), []), some (.if_icmp .gt 7, 3, (0, 99999, 0), []), none, none, some (.iconst 1, 1, (0, 99999, 0), []), some (.goto 4, 3, (0, 99999, 0), [])],
  [none, none, some (.iconst 0, 1, (0, 99999, 0), []), some (.invokevirtual 256, 3, (3, 186, 4), [5233, 5235, 61, 1007]), none, none, some (.istore 4, 2, (0, 99999, 0), []), none, some (.iload 4, 2, (0, 99999, 0), []), none, some (.ifCond .eq 10, 3, (0, 99999, 0), []), none, none, some (.aload_n 0, 1, (0, 99999, 0), []), some (.iload 4, 2, (0, 99999, 0), []), none],
  [some (.invokevirtual 115, 3, (3, 129, 1), [5013, 5015, 29, 1007]), none, none, some (.ireturn, 1, (0, 99999, 0), []), some (.aload_n 0, 1, (0, 99999, 0), []), some (.aload_n 0, 1, (0, 99999, 0), []), some (.getfield 84, 3, (1, 6, 34), [4131]), none, none, some (.iconst 0, 1, (0, 99999, 0), []), some (.invokevirtual 197, 3, (3, 164, 2), [5109, 5111, 39, 1007]), none, none, some (.aload_n 0, 1, (0, 99999, 0), []), some (.iload_n 1, 1, (0, 99999, 0), []), some (.iload_n 2, 1, (0, 99999, 0), [])],
  [some (.invokevirtual 278, 3, (3, 193, 2), [6025, 6027, 65, 1007]), none, none, some (.istore 5, 2, (0, 99999, 0), []), none, some (.aload_n 0, 1, (0, 99999, 0), []), some (.aload_n 0, 1, (0, 99999, 0), []), some (.getfield 84, 3, (1, 6, 34), [4131]), none, none, some (.iconst 1, 1, (0, 99999, 0), []), some (.invokevirtual 197, 3, (3, 164, 2), [5109, 5111, 39, 1007]), none, none, some (.iload 5, 2, (0, 99999, 0), []), none],
  [some (.iconst (-1), 1, (0, 99999, 0), []), some (.if_icmp .eq 12, 3, (0, 99999, 0), []), none, none, some (.aload_n 0, 1, (0, 99999, 0), []), some (.bipush (-6), 2, (0, 99999, 0), []), none, some (.invokevirtual 115, 3, (3, 129, 1), [5013, 5015, 29, 1007]), none, none, some (.goto 30, 3, (0, 99999, 0), []), none, none, some (.iload_n 3, 1, (0, 99999, 0), []), some (.ifCond .ne 10, 3, (0, 99999, 0), []), none],
  [none, some (.aload_n 0, 1, (0, 99999, 0), []), some (.getfield 269, 3, (1, 6, 43), [4140]), none, none, some (.goto 19, 3, (0, 99999, 0), []), none, none, some (.iload_n 3, 1, (0, 99999, 0), []), some (.iconst 1, 1, (0, 99999, 0), []), some (.if_icmp .ne 10, 3, (0, 99999, 0), []), none, none, some (.aload_n 0, 1, (0, 99999, 0), []), some (.getfield 272, 3, (1, 6, 44), [4141]), none],
  [none, some (.goto 7, 3, (0, 99999, 0), []), none, none, some (.aload_n 0, 1, (0, 99999, 0), []), some (.getfield 275, 3, (1, 6, 45), [4142]), none, none, some (.ireturn, 1, (0, 99999, 0), [])]])
def mX6_done : ab_D := (yX6_done, cX6_done, 4, some .int, 6, 2, false, [
  [some (.aload_n 0, 1, (0, 99999, 0), []), some (.iload_n 1, 1, (0, 99999, 0), []), some (.iload_n 2, 1, (0, 99999, 0), []), some (.bipush 20, 2, (0, 99999, 0), []), none, some (.iconst 1, 1, (0, 99999, 0), []), some (.invokevirtual 256, 3, (3, 186, 4), [5233, 5235, 61, 1007]), none, none, some (.istore_n 3, 1, (0, 99999, 0), []), some (.iload_n 3, 1, (0, 99999, 0), []), some (.ifCond .eq 9, 3, (0, 99999, 0), []), none, none, some (.aload_n 0, 1, (0, 99999, 0), []), some (.iload_n 3, 1, (0, 99999, 0), [])],
  [some (.invokevirtual 115, 3, (3, 129, 1), [5013, 5015, 29, 1007]), none, none, some (.ireturn, 1, (0, 99999, 0), []), some (.aload_n 0, 1, (0, 99999, 0), []), some (.aload_n 0, 1, (0, 99999, 0), []), some (.getfield 84, 3, (1, 6, 34), [4131]), none, none, some (.iconst 0, 1, (0, 99999, 0), []), some (.invokevirtual 197, 3, (3, 164, 2), [5109, 5111, 39, 1007]), none, none, some (.aload_n 0, 1, (0, 99999, 0), []), some (.iload_n 1, 1, (0, 99999, 0), []), some (.iload_n 2, 1, (0, 99999, 0), [])],
  [some (.invokevirtual 278, 3, (3, 193, 2), [6025, 6027, 65, 1007]), none, none, some (.iconst (-1), 1, (0, 99999, 0), []), some (.if_icmp .ne 8, 3, (0, 99999, 0), []), none, none, some (.aload_n 0, 1, (0, 99999, 0), []), some (.getfield 188, 3, (1, 6, 3), [4100]), none, none, some (.ireturn, 1, (0, 99999, 0), []), some (.aload_n 0, 1, (0, 99999, 0), []), some (.aload_n 0, 1, (0, 99999, 0), []), some (.getfield 84, 3, (1, 6, 34), [4131]), none],
  [none, some (.iconst 1, 1, (0, 99999, 0), []), some (.invokevirtual 197, 3, (3, 164, 2), [5109, 5111, 39, 1007]), none, none, some (.aload_n 0, 1, (0, 99999, 0), []), some (.bipush (-6), 2, (0, 99999, 0), []), none, some (.invokevirtual 115, 3, (3, 129, 1), [5013, 5015, 29, 1007]), none, none, some (.ireturn, 1, (0, 99999, 0), [])]])
def mX6_cast : ab_D := (yX6_cast, cX6_cast, 4, some .int, 6, 2, false, [
  [some (.aload_n 0, 1, (0, 99999, 0), []), some (.iload_n 1, 1, (0, 99999, 0), []), some (.invokevirtual 142, 3, (3, 133, 1), [5085, 5087, 36, 1007]), none, none, some (.ifCond .ne 9, 3, (0, 99999, 0), []), none, none, some (.aload_n 0, 1, (0, 99999, 0), []), some (.iconst (-1), 1, (0, 99999, 0), []), some (.invokevirtual 115, 3, (3, 129, 1), [5013, 5015, 29, 1007]), none, none, some (.ireturn, 1, (0, 99999, 0), []), some (.aload_n 0, 1, (0, 99999, 0), []), some (.aload_n 0, 1, (0, 99999, 0), [])],
  [some (.bipush 99, 2, (0, 99999, 0), []), none, some (.invokevirtual 145, 3, (3, 153, 1), [5097, 5099, 37, 1007]), none, none, some (.invokevirtual 219, 3, (3, 170, 1), [5157, 5159, 49, 1007]), none, none, some (.aload_n 0, 1, (0, 99999, 0), []), some (.iload_n 2, 1, (0, 99999, 0), []), some (.iconst 0, 1, (0, 99999, 0), []), some (.bipush 99, 2, (0, 99999, 0), []), none, some (.invokevirtual 128, 3, (3, 134, 3), [5057, 5059, 33, 1007]), none, none],
  [some (.ifCond .eq 12, 3, (0, 99999, 0), []), none, none, some (.aload_n 0, 1, (0, 99999, 0), []), some (.iload_n 1, 1, (0, 99999, 0), []), some (.iload_n 2, 1, (0, 99999, 0), []), some (.invokevirtual 236, 3, (3, 176, 2), [5189, 5191, 55, 1007]), none, none, some (.goto 4, 3, (0, 99999, 0), []), none, none, some (.iconst (-1), 1, (0, 99999, 0), []), some (.istore_n 3, 1, (0, 99999, 0), []), some (.iload_n 3, 1, (0, 99999, 0), []), some (.iconst (-1), 1, (0, 99999, 0), [])],
  [some (.if_icmp .ne 10, 3, (0, 99999, 0), []), none, none, some (.aload_n 0, 1, (0, 99999, 0), []), some (.bipush (-6), 2, (0, 99999, 0), []), none, some (.invokevirtual 115, 3, (3, 129, 1), [5013, 5015, 29, 1007]), none, none, some (.ireturn, 1, (0, 99999, 0), []), some (.aload_n 0, 1, (0, 99999, 0), []), some (.iload_n 1, 1, (0, 99999, 0), []), some (.iload_n 2, 1, (0, 99999, 0), []), some (.iload_n 3, 1, (0, 99999, 0), []), some (.invokevirtual 249, 3, (3, 183, 3), [5225, 5227, 60, 1007]), none],
  [none, some (.iload_n 3, 1, (0, 99999, 0), []), some (.ireturn, 1, (0, 99999, 0), [])]])
def mX6_back : ab_D := (yX6_back, cX6_back, 3, some .int, 6, 1, false, [
  [some (.aload_n 0, 1, (0, 99999, 0), []), some (.iload_n 1, 1, (0, 99999, 0), []), some (.invokevirtual 119, 3, (3, 132, 1), [5033, 5035, 30, 1007]), none, none, some (.ifCond .ne 9, 3, (0, 99999, 0), []), none, none, some (.aload_n 0, 1, (0, 99999, 0), []), some (.iconst (-1), 1, (0, 99999, 0), []), some (.invokevirtual 115, 3, (3, 129, 1), [5013, 5015, 29, 1007]), none, none, some (.ireturn, 1, (0, 99999, 0), []), some (.aload_n 0, 1, (0, 99999, 0), []), some (.getfield 29, 3, (1, 6, 11), [4108])],
  [none, none, some (.iload_n 1, 1, (0, 99999, 0), []), some (.iaload, 1, (0, 99999, 0), []), some (.bipush 99, 2, (0, 99999, 0), []), none, some (.if_icmp .ne 10, 3, (0, 99999, 0), []), none, none, some (.aload_n 0, 1, (0, 99999, 0), []), some (.bipush (-6), 2, (0, 99999, 0), []), none, some (.invokevirtual 115, 3, (3, 129, 1), [5013, 5015, 29, 1007]), none, none, some (.ireturn, 1, (0, 99999, 0), [])],
  [some (.aload_n 0, 1, (0, 99999, 0), []), some (.getfield 29, 3, (1, 6, 11), [4108]), none, none, some (.iload_n 1, 1, (0, 99999, 0), []), some (.iaload, 1, (0, 99999, 0), []), some (.istore_n 2, 1, (0, 99999, 0), []), some (.aload_n 0, 1, (0, 99999, 0), []), some (.getfield 29, 3, (1, 6, 11), [4108]), none, none, some (.iload_n 1, 1, (0, 99999, 0), []), some (.bipush 99, 2, (0, 99999, 0), []), none, some (.iastore, 1, (0, 99999, 0), []), some (.iload_n 2, 1, (0, 99999, 0), [])],
  [some (.ireturn, 1, (0, 99999, 0), [])]])
def mX6_draw : ab_D := (yX6_draw, cX6_draw, 2, some .int, 6, 1, false, [
  [some (.aload_n 0, 1, (0, 99999, 0), []), some (.aload_n 0, 1, (0, 99999, 0), []), some (.getfield 7, 3, (1, 6, 5), [4102]), none, none, some (.ldc_w 281, 3, (10, 1103515245, 0), [6057]), none, none, some (.imul, 1, (0, 99999, 0), []), some (.sipush 12345, 3, (0, 99999, 0), []), none, none, some (.iadd, 1, (0, 99999, 0), []), some (.putfield 7, 3, (1, 6, 5), [4102]), none, none],
  [some (.aload_n 0, 1, (0, 99999, 0), []), some (.getfield 7, 3, (1, 6, 5), [4102]), none, none, some (.bipush 16, 2, (0, 99999, 0), []), none, some (.iushr, 1, (0, 99999, 0), []), some (.iload_n 1, 1, (0, 99999, 0), []), some (.irem, 1, (0, 99999, 0), []), some (.ireturn, 1, (0, 99999, 0), [])]])
def mX6_day : ab_D := (yX6_day, cX6_day, 3, none, 6, 0, false, [
  [some (.aload_n 0, 1, (0, 99999, 0), []), some (.dup, 1, (0, 99999, 0), []), some (.getfield 191, 3, (1, 6, 4), [4101]), none, none, some (.iconst 1, 1, (0, 99999, 0), []), some (.iadd, 1, (0, 99999, 0), []), some (.putfield 191, 3, (1, 6, 4), [4101]), none, none, some (.aload_n 0, 1, (0, 99999, 0), []), some (.aload_n 0, 1, (0, 99999, 0), []), some (.getfield 108, 3, (1, 6, 1), [4098]), none, none, some (.invokevirtual 282, 3, (3, 199, 1), [6053, 6055, 67, 1007])],
  [none, none, some (.istore_n 1, 1, (0, 99999, 0), []), some (.aload_n 0, 1, (0, 99999, 0), []), some (.getfield 32, 3, (1, 6, 12), [4109]), none, none, some (.iload_n 1, 1, (0, 99999, 0), []), some (.dup2, 1, (0, 99999, 0), []), some (.iaload, 1, (0, 99999, 0), []), some (.aload_n 0, 1, (0, 99999, 0), []), some (.bipush 20, 2, (0, 99999, 0), []), none, some (.invokevirtual 282, 3, (3, 199, 1), [6053, 6055, 67, 1007]), none, none],
  [some (.iadd, 1, (0, 99999, 0), []), some (.iastore, 1, (0, 99999, 0), []), some (.aload_n 0, 1, (0, 99999, 0), []), some (.getfield 32, 3, (1, 6, 12), [4109]), none, none, some (.iload_n 1, 1, (0, 99999, 0), []), some (.iaload, 1, (0, 99999, 0), []), some (.bipush 99, 2, (0, 99999, 0), []), none, some (.if_icmp .le 11, 3, (0, 99999, 0), []), none, none, some (.aload_n 0, 1, (0, 99999, 0), []), some (.getfield 32, 3, (1, 6, 12), [4109]), none],
  [none, some (.iload_n 1, 1, (0, 99999, 0), []), some (.bipush 99, 2, (0, 99999, 0), []), none, some (.iastore, 1, (0, 99999, 0), []), some (.aload_n 0, 1, (0, 99999, 0), []), some (.getfield 38, 3, (1, 6, 14), [4111]), none, none, some (.iload_n 1, 1, (0, 99999, 0), []), some (.aload_n 0, 1, (0, 99999, 0), []), some (.bipush 8, 2, (0, 99999, 0), []), none, some (.invokevirtual 282, 3, (3, 199, 1), [6053, 6055, 67, 1007]), none, none],
  [some (.iastore, 1, (0, 99999, 0), []), some (.aload_n 0, 1, (0, 99999, 0), []), some (.iload_n 1, 1, (0, 99999, 0), []), some (.invokevirtual 239, 3, (3, 177, 1), [5201, 5203, 57, 1007]), none, none, some (.aload_n 0, 1, (0, 99999, 0), []), some (.getfield 230, 3, (1, 6, 36), [4133]), none, none, some (.iconst (-1), 1, (0, 99999, 0), []), some (.if_icmp .eq 24, 3, (0, 99999, 0), []), none, none, some (.aload_n 0, 1, (0, 99999, 0), []), some (.iload_n 1, 1, (0, 99999, 0), [])],
  [some (.aload_n 0, 1, (0, 99999, 0), []), some (.getfield 230, 3, (1, 6, 36), [4133]), none, none, some (.aload_n 0, 1, (0, 99999, 0), []), some (.iload_n 1, 1, (0, 99999, 0), []), some (.aload_n 0, 1, (0, 99999, 0), []), some (.getfield 230, 3, (1, 6, 36), [4133]), none, none, some (.invokevirtual 236, 3, (3, 176, 2), [5189, 5191, 55, 1007]), none, none, some (.invokevirtual 249, 3, (3, 183, 3), [5225, 5227, 60, 1007]), none, none],
  [some (.goto 37, 3, (0, 99999, 0), []), none, none, some (.aload_n 0, 1, (0, 99999, 0), []), some (.getfield 105, 3, (1, 6, 0), [4097]), none, none, some (.ifCond .le 30, 3, (0, 99999, 0), []), none, none, some (.aload_n 0, 1, (0, 99999, 0), []), some (.aload_n 0, 1, (0, 99999, 0), []), some (.getfield 105, 3, (1, 6, 0), [4097]), none, none, some (.invokevirtual 282, 3, (3, 199, 1), [6053, 6055, 67, 1007])],
  [none, none, some (.istore_n 2, 1, (0, 99999, 0), []), some (.aload_n 0, 1, (0, 99999, 0), []), some (.getfield 29, 3, (1, 6, 11), [4108]), none, none, some (.iload_n 2, 1, (0, 99999, 0), []), some (.iaload, 1, (0, 99999, 0), []), some (.iload_n 1, 1, (0, 99999, 0), []), some (.if_icmp .ne 11, 3, (0, 99999, 0), []), none, none, some (.aload_n 0, 1, (0, 99999, 0), []), some (.getfield 29, 3, (1, 6, 11), [4108]), none],
  [none, some (.iload_n 2, 1, (0, 99999, 0), []), some (.bipush 99, 2, (0, 99999, 0), []), none, some (.iastore, 1, (0, 99999, 0), []), some (.return_, 1, (0, 99999, 0), [])]])
def mX6_allGranted : ab_D := (yX6_allGranted, cX6_allGranted, 3, some .int, 6, 0, false, [
  [some (.iconst 0, 1, (0, 99999, 0), []), some (.istore_n 1, 1, (0, 99999, 0), []), some (.iconst 0, 1, (0, 99999, 0), []), some (.istore_n 2, 1, (0, 99999, 0), []), some (.iload_n 2, 1, (0, 99999, 0), []), some (.aload_n 0, 1, (0, 99999, 0), []), some (.getfield 108, 3, (1, 6, 1), [4098]), none, none, some (.if_icmp .ge 18, 3, (0, 99999, 0), []), none, none, some (.iload_n 1, 1, (0, 99999, 0), []), some (.aload_n 0, 1, (0, 99999, 0), []), some (.getfield 41, 3, (1, 6, 15), [4112]), none],
  [none, some (.iload_n 2, 1, (0, 99999, 0), []), some (.iaload, 1, (0, 99999, 0), []), some (.iadd, 1, (0, 99999, 0), []), some (.istore_n 1, 1, (0, 99999, 0), []), some (.iinc 2 1, 3, (0, 99999, 0), []), none, none, some (.goto (-20), 3, (0, 99999, 0), []), none, none, some (.iload_n 1, 1, (0, 99999, 0), []), some (.ireturn, 1, (0, 99999, 0), [])]])
def mX6_days : ab_D := (yX6_days, cX6_days, 3, some .int, 6, 1, false, [
  [some (.aload_n 0, 1, (0, 99999, 0), []), some (.getfield 108, 3, (1, 6, 1), [4098]), none, none, some (.ifCond .ne 10, 3, (0, 99999, 0), []), none, none, some (.aload_n 0, 1, (0, 99999, 0), []), some (.bipush (-5), 2, (0, 99999, 0), []), none, some (.invokevirtual 115, 3, (3, 129, 1), [5013, 5015, 29, 1007]), none, none, some (.ireturn, 1, (0, 99999, 0), []), some (.aload_n 0, 1, (0, 99999, 0), []), some (.iload_n 1, 1, (0, 99999, 0), [])],
  [some (.iconst 1, 1, (0, 99999, 0), []), some (.bipush 40, 2, (0, 99999, 0), []), none, some (.invokevirtual 128, 3, (3, 134, 3), [5057, 5059, 33, 1007]), none, none, some (.ifCond .ne 10, 3, (0, 99999, 0), []), none, none, some (.aload_n 0, 1, (0, 99999, 0), []), some (.bipush (-6), 2, (0, 99999, 0), []), none, some (.invokevirtual 115, 3, (3, 129, 1), [5013, 5015, 29, 1007]), none, none, some (.ireturn, 1, (0, 99999, 0), [])],
  [some (.iconst 0, 1, (0, 99999, 0), []), some (.istore_n 2, 1, (0, 99999, 0), []), some (.iload_n 2, 1, (0, 99999, 0), []), some (.iload_n 1, 1, (0, 99999, 0), []), some (.if_icmp .ge 13, 3, (0, 99999, 0), []), none, none, some (.aload_n 0, 1, (0, 99999, 0), []), some (.invokevirtual 285, 3, (3, 200, 0), [6049, 6051, 66, 1007]), none, none, some (.iinc 2 1, 3, (0, 99999, 0), []), none, none, some (.goto (-12), 3, (0, 99999, 0), []), none],
  [none, some (.aload_n 0, 1, (0, 99999, 0), []), some (.invokevirtual 288, 3, (3, 201, 0), [6058, 6060, 68, 1007]), none, none, some (.ireturn, 1, (0, 99999, 0), [])]])
def mX6_seed : ab_D := (yX6_seed, cX6_seed, 3, some .int, 6, 1, false, [
  [some (.aload_n 0, 1, (0, 99999, 0), []), some (.getfield 7, 3, (1, 6, 5), [4102]), none, none, some (.istore_n 2, 1, (0, 99999, 0), []), some (.aload_n 0, 1, (0, 99999, 0), []), some (.iload_n 1, 1, (0, 99999, 0), []), some (.putfield 7, 3, (1, 6, 5), [4102]), none, none, some (.iload_n 2, 1, (0, 99999, 0), []), some (.ireturn, 1, (0, 99999, 0), [])]])
def mX6_body : ab_D := (yX6_body, cX6_body, 2, none, 6, 1, false, [
  [some (.aload_n 0, 1, (0, 99999, 0), []), some (.getfield 291, 3, (1, 6, 47), [4144]), none, none, some (.bipush 20, 2, (0, 99999, 0), []), none, some (.if_icmp .ge 13, 3, (0, 99999, 0), []), none, none, some (.aload_n 0, 1, (0, 99999, 0), []), some (.getfield 102, 3, (1, 6, 46), [4143]), none, none, some (.aload_n 0, 1, (0, 99999, 0), []), some (.getfield 291, 3, (1, 6, 47), [4144]), none],
  [none, some (.iload_n 1, 1, (0, 99999, 0), []), some (.iastore, 1, (0, 99999, 0), []), some (.aload_n 0, 1, (0, 99999, 0), []), some (.dup, 1, (0, 99999, 0), []), some (.getfield 291, 3, (1, 6, 47), [4144]), none, none, some (.iconst 1, 1, (0, 99999, 0), []), some (.iadd, 1, (0, 99999, 0), []), some (.putfield 291, 3, (1, 6, 47), [4144]), none, none, some (.return_, 1, (0, 99999, 0), [])]])
def mX6_falling : ab_D := (yX6_falling, cX6_falling, 8, some .int, 6, 2, false, [
  [some (.aload_n 0, 1, (0, 99999, 0), []), some (.getfield 20, 3, (1, 6, 8), [4105]), none, none, some (.iload_n 1, 1, (0, 99999, 0), []), some (.iaload, 1, (0, 99999, 0), []), some (.istore_n 3, 1, (0, 99999, 0), []), some (.iload_n 2, 1, (0, 99999, 0), []), some (.istore 4, 2, (0, 99999, 0), []), none, some (.iload_n 3, 1, (0, 99999, 0), []), some (.iconst 1, 1, (0, 99999, 0), []), some (.if_icmp .eq 8, 3, (0, 99999, 0), []), none, none, some (.iload_n 3, 1, (0, 99999, 0), [])],
  [some (.iconst 3, 1, (0, 99999, 0), []), some (.if_icmp .ne 7, 3, (0, 99999, 0), []), none, none, some (.iconst 1, 1, (0, 99999, 0), []), some (.goto 4, 3, (0, 99999, 0), []), none, none, some (.iconst 0, 1, (0, 99999, 0), []), some (.istore 5, 2, (0, 99999, 0), []), none, some (.iload_n 3, 1, (0, 99999, 0), []), some (.iconst 4, 1, (0, 99999, 0), []), some (.if_icmp .eq 9, 3, (0, 99999, 0), []), none, none],
  [some (.iload_n 3, 1, (0, 99999, 0), []), some (.bipush 6, 2, (0, 99999, 0), []), none, some (.if_icmp .ne 7, 3, (0, 99999, 0), []), none, none, some (.iconst 1, 1, (0, 99999, 0), []), some (.goto 4, 3, (0, 99999, 0), []), none, none, some (.iconst 0, 1, (0, 99999, 0), []), some (.istore 6, 2, (0, 99999, 0), []), none, some (.iload_n 3, 1, (0, 99999, 0), []), some (.bipush 6, 2, (0, 99999, 0), []), none],
  [some (.if_icmp .ne 9, 3, (0, 99999, 0), []), none, none, some (.aload_n 0, 1, (0, 99999, 0), []), some (.bipush 70, 2, (0, 99999, 0), []), none, some (.invokevirtual 294, 3, (3, 204, 1), [6074, 6076, 70, 1007]), none, none, some (.iload_n 3, 1, (0, 99999, 0), []), some (.iconst 3, 1, (0, 99999, 0), []), some (.if_icmp .ne 14, 3, (0, 99999, 0), []), none, none, some (.aload_n 0, 1, (0, 99999, 0), []), some (.bipush 40, 2, (0, 99999, 0), [])],
  [none, some (.invokevirtual 294, 3, (3, 204, 1), [6074, 6076, 70, 1007]), none, none, some (.iload_n 2, 1, (0, 99999, 0), []), some (.iconst 1, 1, (0, 99999, 0), []), some (.iadd, 1, (0, 99999, 0), []), some (.istore 4, 2, (0, 99999, 0), []), none, some (.iload 5, 2, (0, 99999, 0), []), none, some (.ifCond .eq 9, 3, (0, 99999, 0), []), none, none, some (.aload_n 0, 1, (0, 99999, 0), []), some (.bipush 20, 2, (0, 99999, 0), [])],
  [none, some (.invokevirtual 294, 3, (3, 204, 1), [6074, 6076, 70, 1007]), none, none, some (.iload 6, 2, (0, 99999, 0), []), none, some (.ifCond .eq 9, 3, (0, 99999, 0), []), none, none, some (.aload_n 0, 1, (0, 99999, 0), []), some (.bipush 51, 2, (0, 99999, 0), []), none, some (.invokevirtual 294, 3, (3, 204, 1), [6074, 6076, 70, 1007]), none, none, some (.aload_n 0, 1, (0, 99999, 0), [])],
  [some (.bipush 10, 2, (0, 99999, 0), []), none, some (.invokevirtual 294, 3, (3, 204, 1), [6074, 6076, 70, 1007]), none, none, some (.iload 4, 2, (0, 99999, 0), []), none, some (.iload_n 1, 1, (0, 99999, 0), []), some (.iadd, 1, (0, 99999, 0), []), some (.istore 7, 2, (0, 99999, 0), []), none, some (.iload 5, 2, (0, 99999, 0), []), none, some (.ifCond .eq 14, 3, (0, 99999, 0), []), none, none],
  [some (.iload 7, 2, (0, 99999, 0), []), none, some (.aload_n 0, 1, (0, 99999, 0), []), some (.getfield 23, 3, (1, 6, 9), [4106]), none, none, some (.iload_n 1, 1, (0, 99999, 0), []), some (.iaload, 1, (0, 99999, 0), []), some (.iadd, 1, (0, 99999, 0), []), some (.istore 7, 2, (0, 99999, 0), []), none, some (.iload 6, 2, (0, 99999, 0), []), none, some (.ifCond .eq 9, 3, (0, 99999, 0), []), none, none],
  [some (.iload 7, 2, (0, 99999, 0), []), none, some (.iload_n 1, 1, (0, 99999, 0), []), some (.isub, 1, (0, 99999, 0), []), some (.istore 7, 2, (0, 99999, 0), []), none, some (.iload_n 3, 1, (0, 99999, 0), []), some (.bipush 6, 2, (0, 99999, 0), []), none, some (.if_icmp .ne 10, 3, (0, 99999, 0), []), none, none, some (.iload 7, 2, (0, 99999, 0), []), none, some (.iconst 2, 1, (0, 99999, 0), []), some (.imul, 1, (0, 99999, 0), [])],
  [some (.goto 5, 3, (0, 99999, 0), []), none, none, some (.iload 7, 2, (0, 99999, 0), []), none, some (.ireturn, 1, (0, 99999, 0), [])]])
def mX6_ringing : ab_D := (yX6_ringing, cX6_ringing, 7, some .int, 6, 2, false, [
  [some (.aload_n 0, 1, (0, 99999, 0), []), some (.getfield 20, 3, (1, 6, 8), [4105]), none, none, some (.iload_n 1, 1, (0, 99999, 0), []), some (.iaload, 1, (0, 99999, 0), []), some (.istore_n 3, 1, (0, 99999, 0), []), some (.iload_n 2, 1, (0, 99999, 0), []), some (.istore 4, 2, (0, 99999, 0), []), none, some (.iload_n 3, 1, (0, 99999, 0), []), some (.bipush 6, 2, (0, 99999, 0), []), none, some (.if_icmp .ne 19, 3, (0, 99999, 0), []), none, none],
  [some (.aload_n 0, 1, (0, 99999, 0), []), some (.bipush 71, 2, (0, 99999, 0), []), none, some (.invokevirtual 294, 3, (3, 204, 1), [6074, 6076, 70, 1007]), none, none, some (.iload_n 2, 1, (0, 99999, 0), []), some (.aload_n 0, 1, (0, 99999, 0), []), some (.getfield 23, 3, (1, 6, 9), [4106]), none, none, some (.iload_n 1, 1, (0, 99999, 0), []), some (.iaload, 1, (0, 99999, 0), []), some (.isub, 1, (0, 99999, 0), []), some (.istore 4, 2, (0, 99999, 0), []), none],
  [some (.iload_n 3, 1, (0, 99999, 0), []), some (.iconst 2, 1, (0, 99999, 0), []), some (.if_icmp .eq 8, 3, (0, 99999, 0), []), none, none, some (.iload_n 3, 1, (0, 99999, 0), []), some (.iconst 5, 1, (0, 99999, 0), []), some (.if_icmp .ne 7, 3, (0, 99999, 0), []), none, none, some (.iconst 1, 1, (0, 99999, 0), []), some (.goto 4, 3, (0, 99999, 0), []), none, none, some (.iconst 0, 1, (0, 99999, 0), []), some (.istore 5, 2, (0, 99999, 0), [])],
  [none, some (.iload 5, 2, (0, 99999, 0), []), none, some (.ifCond .eq 9, 3, (0, 99999, 0), []), none, none, some (.aload_n 0, 1, (0, 99999, 0), []), some (.bipush 30, 2, (0, 99999, 0), []), none, some (.invokevirtual 294, 3, (3, 204, 1), [6074, 6076, 70, 1007]), none, none, some (.aload_n 0, 1, (0, 99999, 0), []), some (.bipush 11, 2, (0, 99999, 0), []), none, some (.invokevirtual 294, 3, (3, 204, 1), [6074, 6076, 70, 1007])],
  [none, none, some (.aload_n 0, 1, (0, 99999, 0), []), some (.iload_n 1, 1, (0, 99999, 0), []), some (.iload 4, 2, (0, 99999, 0), []), none, some (.invokevirtual 297, 3, (3, 205, 2), [6070, 6072, 69, 1007]), none, none, some (.iconst 2, 1, (0, 99999, 0), []), some (.imul, 1, (0, 99999, 0), []), some (.istore 6, 2, (0, 99999, 0), []), none, some (.iload 5, 2, (0, 99999, 0), []), none, some (.ifCond .eq 10, 3, (0, 99999, 0), [])],
  [none, none, some (.iload 6, 2, (0, 99999, 0), []), none, some (.iconst 3, 1, (0, 99999, 0), []), some (.imul, 1, (0, 99999, 0), []), some (.goto 5, 3, (0, 99999, 0), []), none, none, some (.iload 6, 2, (0, 99999, 0), []), none, some (.ireturn, 1, (0, 99999, 0), [])]])
def mX6_sinking : ab_D := (yX6_sinking, cX6_sinking, 6, some .int, 6, 2, false, [
  [some (.aload_n 0, 1, (0, 99999, 0), []), some (.getfield 20, 3, (1, 6, 8), [4105]), none, none, some (.iload_n 1, 1, (0, 99999, 0), []), some (.iaload, 1, (0, 99999, 0), []), some (.istore_n 3, 1, (0, 99999, 0), []), some (.iload_n 3, 1, (0, 99999, 0), []), some (.iconst 4, 1, (0, 99999, 0), []), some (.if_icmp .eq 9, 3, (0, 99999, 0), []), none, none, some (.iload_n 3, 1, (0, 99999, 0), []), some (.bipush 6, 2, (0, 99999, 0), []), none, some (.if_icmp .ne 7, 3, (0, 99999, 0), [])],
  [none, none, some (.iconst 1, 1, (0, 99999, 0), []), some (.goto 4, 3, (0, 99999, 0), []), none, none, some (.iconst 0, 1, (0, 99999, 0), []), some (.istore 4, 2, (0, 99999, 0), []), none, some (.iload_n 3, 1, (0, 99999, 0), []), some (.iconst 5, 1, (0, 99999, 0), []), some (.if_icmp .ne 9, 3, (0, 99999, 0), []), none, none, some (.aload_n 0, 1, (0, 99999, 0), []), some (.bipush 60, 2, (0, 99999, 0), [])],
  [none, some (.invokevirtual 294, 3, (3, 204, 1), [6074, 6076, 70, 1007]), none, none, some (.iload 4, 2, (0, 99999, 0), []), none, some (.ifCond .eq 9, 3, (0, 99999, 0), []), none, none, some (.aload_n 0, 1, (0, 99999, 0), []), some (.bipush 50, 2, (0, 99999, 0), []), none, some (.invokevirtual 294, 3, (3, 204, 1), [6074, 6076, 70, 1007]), none, none, some (.aload_n 0, 1, (0, 99999, 0), [])],
  [some (.bipush 12, 2, (0, 99999, 0), []), none, some (.invokevirtual 294, 3, (3, 204, 1), [6074, 6076, 70, 1007]), none, none, some (.aload_n 0, 1, (0, 99999, 0), []), some (.iload_n 1, 1, (0, 99999, 0), []), some (.iload_n 2, 1, (0, 99999, 0), []), some (.invokevirtual 300, 3, (3, 206, 2), [6078, 6080, 71, 1007]), none, none, some (.istore 5, 2, (0, 99999, 0), []), none, some (.iload 5, 2, (0, 99999, 0), []), none, some (.aload_n 0, 1, (0, 99999, 0), [])],
  [some (.iload_n 1, 1, (0, 99999, 0), []), some (.iload_n 2, 1, (0, 99999, 0), []), some (.aload_n 0, 1, (0, 99999, 0), []), some (.getfield 23, 3, (1, 6, 9), [4106]), none, none, some (.iload_n 1, 1, (0, 99999, 0), []), some (.iaload, 1, (0, 99999, 0), []), some (.isub, 1, (0, 99999, 0), []), some (.invokevirtual 297, 3, (3, 205, 2), [6070, 6072, 69, 1007]), none, none, some (.ixor, 1, (0, 99999, 0), []), some (.istore 5, 2, (0, 99999, 0), []), none, some (.iload 4, 2, (0, 99999, 0), [])],
  [none, some (.ifCond .eq 9, 3, (0, 99999, 0), []), none, none, some (.iload 5, 2, (0, 99999, 0), []), none, some (.ineg, 1, (0, 99999, 0), []), some (.goto 17, 3, (0, 99999, 0), []), none, none, some (.iload_n 3, 1, (0, 99999, 0), []), some (.iconst 5, 1, (0, 99999, 0), []), some (.if_icmp .ne 10, 3, (0, 99999, 0), []), none, none, some (.iload 5, 2, (0, 99999, 0), [])],
  [none, some (.iconst 5, 1, (0, 99999, 0), []), some (.ixor, 1, (0, 99999, 0), []), some (.goto 5, 3, (0, 99999, 0), []), none, none, some (.iload 5, 2, (0, 99999, 0), []), none, some (.ireturn, 1, (0, 99999, 0), [])]])
def mX6_act : ab_D := (yX6_act, cX6_act, 4, some .int, 6, 3, false, [
  [some (.aload_n 0, 1, (0, 99999, 0), []), some (.iconst 0, 1, (0, 99999, 0), []), some (.putfield 291, 3, (1, 6, 47), [4144]), none, none, some (.aload_n 0, 1, (0, 99999, 0), []), some (.iload_n 1, 1, (0, 99999, 0), []), some (.invokevirtual 119, 3, (3, 132, 1), [5033, 5035, 30, 1007]), none, none, some (.ifCond .eq 12, 3, (0, 99999, 0), []), none, none, some (.iload_n 2, 1, (0, 99999, 0), []), some (.ifCond .lt 8, 3, (0, 99999, 0), []), none],
  [none, some (.iload_n 2, 1, (0, 99999, 0), []), some (.iconst 2, 1, (0, 99999, 0), []), some (.if_icmp .le 5, 3, (0, 99999, 0), []), none, none, some (.iconst 0, 1, (0, 99999, 0), []), some (.ireturn, 1, (0, 99999, 0), []), some (.iload_n 2, 1, (0, 99999, 0), []), some (.ifCond .ne 12, 3, (0, 99999, 0), []), none, none, some (.aload_n 0, 1, (0, 99999, 0), []), some (.iload_n 1, 1, (0, 99999, 0), []), some (.iload_n 3, 1, (0, 99999, 0), []), some (.invokevirtual 297, 3, (3, 205, 2), [6070, 6072, 69, 1007])],
  [none, none, some (.goto 23, 3, (0, 99999, 0), []), none, none, some (.iload_n 2, 1, (0, 99999, 0), []), some (.iconst 1, 1, (0, 99999, 0), []), some (.if_icmp .ne 12, 3, (0, 99999, 0), []), none, none, some (.aload_n 0, 1, (0, 99999, 0), []), some (.iload_n 1, 1, (0, 99999, 0), []), some (.iload_n 3, 1, (0, 99999, 0), []), some (.invokevirtual 300, 3, (3, 206, 2), [6078, 6080, 71, 1007]), none, none],
  [some (.goto 9, 3, (0, 99999, 0), []), none, none, some (.aload_n 0, 1, (0, 99999, 0), []), some (.iload_n 1, 1, (0, 99999, 0), []), some (.iload_n 3, 1, (0, 99999, 0), []), some (.invokevirtual 303, 3, (3, 207, 2), [6082, 6084, 72, 1007]), none, none, some (.ireturn, 1, (0, 99999, 0), [])]])
def mX6_trace : ab_D := (yX6_trace, cX6_trace, 2, some .int, 6, 1, false, [
  [some (.iload_n 1, 1, (0, 99999, 0), []), some (.ifCond .lt 26, 3, (0, 99999, 0), []), none, none, some (.iload_n 1, 1, (0, 99999, 0), []), some (.bipush 20, 2, (0, 99999, 0), []), none, some (.if_icmp .ge 20, 3, (0, 99999, 0), []), none, none, some (.iload_n 1, 1, (0, 99999, 0), []), some (.aload_n 0, 1, (0, 99999, 0), []), some (.getfield 291, 3, (1, 6, 47), [4144]), none, none, some (.if_icmp .ge 12, 3, (0, 99999, 0), [])],
  [none, none, some (.aload_n 0, 1, (0, 99999, 0), []), some (.getfield 102, 3, (1, 6, 46), [4143]), none, none, some (.iload_n 1, 1, (0, 99999, 0), []), some (.iaload, 1, (0, 99999, 0), []), some (.goto 4, 3, (0, 99999, 0), []), none, none, some (.iconst (-1), 1, (0, 99999, 0), []), some (.ireturn, 1, (0, 99999, 0), [])]])
def mX6_image : ab_D := (yX6_image, cX6_image, 1, some .int, 6, 0, false, [
  [some (.aload_n 0, 1, (0, 99999, 0), []), some (.iconst 1, 1, (0, 99999, 0), []), some (.putfield 306, 3, (1, 6, 48), [4145]), none, none, some (.aload_n 0, 1, (0, 99999, 0), []), some (.aload_n 0, 1, (0, 99999, 0), []), some (.getfield 81, 3, (1, 6, 33), [4130]), none, none, some (.iconst 0, 1, (0, 99999, 0), []), some (.invokevirtual 197, 3, (3, 164, 2), [5109, 5111, 39, 1007]), none, none, some (.aload_n 0, 1, (0, 99999, 0), []), some (.getfield 105, 3, (1, 6, 0), [4097])],
  [none, none, some (.ireturn, 1, (0, 99999, 0), [])]])
def mX6_restore : ab_D := (yX6_restore, cX6_restore, 2, some .int, 6, 0, false, [
  [some (.aload_n 0, 1, (0, 99999, 0), []), some (.getfield 306, 3, (1, 6, 48), [4145]), none, none, some (.ifCond .ne 10, 3, (0, 99999, 0), []), none, none, some (.aload_n 0, 1, (0, 99999, 0), []), some (.bipush (-6), 2, (0, 99999, 0), []), none, some (.invokevirtual 115, 3, (3, 129, 1), [5013, 5015, 29, 1007]), none, none, some (.ireturn, 1, (0, 99999, 0), []), some (.aload_n 0, 1, (0, 99999, 0), []), some (.aload_n 0, 1, (0, 99999, 0), [])],
  [some (.getfield 81, 3, (1, 6, 33), [4130]), none, none, some (.iconst 1, 1, (0, 99999, 0), []), some (.invokevirtual 197, 3, (3, 164, 2), [5109, 5111, 39, 1007]), none, none, some (.iconst 0, 1, (0, 99999, 0), []), some (.istore_n 1, 1, (0, 99999, 0), []), some (.iload_n 1, 1, (0, 99999, 0), []), some (.bipush 8, 2, (0, 99999, 0), []), none, some (.if_icmp .ge 39, 3, (0, 99999, 0), []), none, none, some (.aload_n 0, 1, (0, 99999, 0), [])],
  [some (.getfield 47, 3, (1, 6, 17), [4114]), none, none, some (.iload_n 1, 1, (0, 99999, 0), []), some (.iaload, 1, (0, 99999, 0), []), some (.iconst 2, 1, (0, 99999, 0), []), some (.if_icmp .ne 23, 3, (0, 99999, 0), []), none, none, some (.aload_n 0, 1, (0, 99999, 0), []), some (.getfield 56, 3, (1, 6, 20), [4117]), none, none, some (.iload_n 1, 1, (0, 99999, 0), []), some (.iaload, 1, (0, 99999, 0), []), some (.aload_n 0, 1, (0, 99999, 0), [])],
  [some (.getfield 105, 3, (1, 6, 0), [4097]), none, none, some (.if_icmp .lt 10, 3, (0, 99999, 0), []), none, none, some (.aload_n 0, 1, (0, 99999, 0), []), some (.getfield 47, 3, (1, 6, 17), [4114]), none, none, some (.iload_n 1, 1, (0, 99999, 0), []), some (.iconst 0, 1, (0, 99999, 0), []), some (.iastore, 1, (0, 99999, 0), []), some (.iinc 1 1, 3, (0, 99999, 0), []), none, none],
  [some (.goto (-39), 3, (0, 99999, 0), []), none, none, some (.aload_n 0, 1, (0, 99999, 0), []), some (.getfield 105, 3, (1, 6, 0), [4097]), none, none, some (.ireturn, 1, (0, 99999, 0), [])]])
def mX6_status : ab_D := (yX6_status, cX6_status, 2, some .int, 6, 1, false, [
  [some (.iload_n 1, 1, (0, 99999, 0), []), some (.bipush 11, 2, (0, 99999, 0), []), none, some (.if_icmp .lt 19, 3, (0, 99999, 0), []), none, none, some (.iload_n 1, 1, (0, 99999, 0), []), some (.bipush 17, 2, (0, 99999, 0), []), none, some (.if_icmp .gt 13, 3, (0, 99999, 0), []), none, none, some (.aload_n 0, 1, (0, 99999, 0), []), some (.getfield 16, 3, (1, 6, 7), [4104]), none, none],
  [some (.iload_n 1, 1, (0, 99999, 0), []), some (.bipush 10, 2, (0, 99999, 0), []), none, some (.isub, 1, (0, 99999, 0), []), some (.iaload, 1, (0, 99999, 0), []), some (.ireturn, 1, (0, 99999, 0), []), some (.iload_n 1, 1, (0, 99999, 0), []), some (.tableswitch 115 0 9 #[53, 58, 63, 74, 85, 90, 95, 100, 105, 110], 53, (0, 99999, 0), []), none, none, none, none, none, none, none, none],
  [none, none, none, none, none, none, none, none, none, none, none, none, none, none, none, none],
  [none, none, none, none, none, none, none, none, none, none, none, none, none, none, none, none],
  [none, none, none, none, none, none, none, none, none, none, none, none, some (.aload_n 0, 1, (0, 99999, 0), []), some (.getfield 105, 3, (1, 6, 0), [4097]), none, none],
  [some (.ireturn, 1, (0, 99999, 0), []), some (.aload_n 0, 1, (0, 99999, 0), []), some (.getfield 108, 3, (1, 6, 1), [4098]), none, none, some (.ireturn, 1, (0, 99999, 0), []), some (.aload_n 0, 1, (0, 99999, 0), []), some (.aload_n 0, 1, (0, 99999, 0), []), some (.bipush 99, 2, (0, 99999, 0), []), none, some (.invokevirtual 145, 3, (3, 153, 1), [5097, 5099, 37, 1007]), none, none, some (.invokevirtual 207, 3, (3, 167, 1), [5165, 5167, 51, 1007]), none, none],
  [some (.ireturn, 1, (0, 99999, 0), []), some (.aload_n 0, 1, (0, 99999, 0), []), some (.aload_n 0, 1, (0, 99999, 0), []), some (.bipush 99, 2, (0, 99999, 0), []), none, some (.invokevirtual 145, 3, (3, 153, 1), [5097, 5099, 37, 1007]), none, none, some (.invokevirtual 204, 3, (3, 168, 1), [5161, 5163, 50, 1007]), none, none, some (.ireturn, 1, (0, 99999, 0), []), some (.aload_n 0, 1, (0, 99999, 0), []), some (.getfield 139, 3, (1, 6, 2), [4099]), none, none],
  [some (.ireturn, 1, (0, 99999, 0), []), some (.aload_n 0, 1, (0, 99999, 0), []), some (.getfield 188, 3, (1, 6, 3), [4100]), none, none, some (.ireturn, 1, (0, 99999, 0), []), some (.aload_n 0, 1, (0, 99999, 0), []), some (.getfield 191, 3, (1, 6, 4), [4101]), none, none, some (.ireturn, 1, (0, 99999, 0), []), some (.aload_n 0, 1, (0, 99999, 0), []), some (.invokevirtual 288, 3, (3, 201, 0), [6058, 6060, 68, 1007]), none, none, some (.ireturn, 1, (0, 99999, 0), [])],
  [some (.aload_n 0, 1, (0, 99999, 0), []), some (.getfield 7, 3, (1, 6, 5), [4102]), none, none, some (.ireturn, 1, (0, 99999, 0), []), some (.aload_n 0, 1, (0, 99999, 0), []), some (.getfield 291, 3, (1, 6, 47), [4144]), none, none, some (.ireturn, 1, (0, 99999, 0), []), some (.iconst (-1), 1, (0, 99999, 0), []), some (.ireturn, 1, (0, 99999, 0), [])]])
def mJ6_bitCount_0f7a4 : ab_D := (yJ6_bitCount_0f7a4, cJ6_bitCount_0f7a4, 1, some .int, 99, 1, false, [
  [some (.iload_n 0, 1, (0, 99999, 0), []), some (.iload_n 0, 1, (0, 99999, 0), []), some (.iconst 1, 1, (0, 99999, 0), []), some (.iushr, 1, (0, 99999, 0), []), some (.ldc_w 265, 3, (10, 1431655765, 0), [3161]), none, none, some (.iand, 1, (0, 99999, 0), []), some (.isub, 1, (0, 99999, 0), []), some (.istore_n 0, 1, (0, 99999, 0), []), some (.iload_n 0, 1, (0, 99999, 0), []), some (.ldc_w 266, 3, (10, 858993459, 0), [3162]), none, none, some (.iand, 1, (0, 99999, 0), []), some (.iload_n 0, 1, (0, 99999, 0), [])],
  [some (.iconst 2, 1, (0, 99999, 0), []), some (.iushr, 1, (0, 99999, 0), []), some (.ldc_w 266, 3, (10, 858993459, 0), [3162]), none, none, some (.iand, 1, (0, 99999, 0), []), some (.iadd, 1, (0, 99999, 0), []), some (.istore_n 0, 1, (0, 99999, 0), []), some (.iload_n 0, 1, (0, 99999, 0), []), some (.iload_n 0, 1, (0, 99999, 0), []), some (.iconst 4, 1, (0, 99999, 0), []), some (.iushr, 1, (0, 99999, 0), []), some (.iadd, 1, (0, 99999, 0), []), some (.ldc_w 267, 3, (10, 252645135, 0), [3163]), none, none],
  [some (.iand, 1, (0, 99999, 0), []), some (.istore_n 0, 1, (0, 99999, 0), []), some (.iload_n 0, 1, (0, 99999, 0), []), some (.iload_n 0, 1, (0, 99999, 0), []), some (.bipush 8, 2, (0, 99999, 0), []), none, some (.iushr, 1, (0, 99999, 0), []), some (.iadd, 1, (0, 99999, 0), []), some (.istore_n 0, 1, (0, 99999, 0), []), some (.iload_n 0, 1, (0, 99999, 0), []), some (.iload_n 0, 1, (0, 99999, 0), []), some (.bipush 16, 2, (0, 99999, 0), []), none, some (.iushr, 1, (0, 99999, 0), []), some (.iadd, 1, (0, 99999, 0), []), some (.istore_n 0, 1, (0, 99999, 0), [])],
  [some (.iload_n 0, 1, (0, 99999, 0), []), some (.bipush 63, 2, (0, 99999, 0), []), none, some (.iand, 1, (0, 99999, 0), []), some (.ireturn, 1, (0, 99999, 0), [])]])
def mJ7_fill_d0a16 : ab_D := (yJ7_fill_d0a16, cJ7_fill_d0a16, 5, none, 99, 2, false, [
  [some (.iconst 0, 1, (0, 99999, 0), []), some (.istore_n 3, 1, (0, 99999, 0), []), some (.aload_n 0, 1, (0, 99999, 0), []), some (.arraylength, 1, (0, 99999, 0), []), some (.istore 4, 2, (0, 99999, 0), []), none, some (.iload_n 3, 1, (0, 99999, 0), []), some (.iload 4, 2, (0, 99999, 0), []), none, some (.if_icmp .ge 13, 3, (0, 99999, 0), []), none, none, some (.aload_n 0, 1, (0, 99999, 0), []), some (.iload_n 3, 1, (0, 99999, 0), []), some (.lload_n 1, 1, (0, 99999, 0), []), some (.lastore, 1, (0, 99999, 0), [])],
  [some (.iinc 3 1, 3, (0, 99999, 0), []), none, none, some (.goto (-13), 3, (0, 99999, 0), []), none, none, some (.return_, 1, (0, 99999, 0), [])]])
def mJ7_fill_53178 : ab_D := (yJ7_fill_53178, cJ7_fill_53178, 4, none, 99, 2, false, [
  [some (.iconst 0, 1, (0, 99999, 0), []), some (.istore_n 2, 1, (0, 99999, 0), []), some (.aload_n 0, 1, (0, 99999, 0), []), some (.arraylength, 1, (0, 99999, 0), []), some (.istore_n 3, 1, (0, 99999, 0), []), some (.iload_n 2, 1, (0, 99999, 0), []), some (.iload_n 3, 1, (0, 99999, 0), []), some (.if_icmp .ge 13, 3, (0, 99999, 0), []), none, none, some (.aload_n 0, 1, (0, 99999, 0), []), some (.iload_n 2, 1, (0, 99999, 0), []), some (.iload_n 1, 1, (0, 99999, 0), []), some (.iastore, 1, (0, 99999, 0), []), some (.iinc 2 1, 3, (0, 99999, 0), []), none],
  [none, some (.goto (-12), 3, (0, 99999, 0), []), none, none, some (.return_, 1, (0, 99999, 0), [])]])
end
section
/-! the tables hold what the methods need; by program (wip/tools/tables.py) -/
def ab_Nl : ab_N := [(RX5, 30, yX0_init, "FountainGivesChange"), (RX5, 37, yX2_init, "FountainGivesChange"), (RX5, 44, yX1_init, "FountainGivesChange"), (RX5, 61, yX3_init, "FountainGivesChange")]
/-- the arrays that stay: of each kind the one it is under; of each move the body that each kind has -/
def ab_Tb : List (List Int32) := [[-1, 0, 0, 1, 0, 2, 4], [10, 20, 0, 40, 51, 0, 70, 11, 0, 30, 0, 0, 0, 71, 12, 0, 0, 0, 50, 60, 0]]
def ab_Sl : List (String × String) := [("FountainGivesChange$Square", "ABOVE"), ("FountainGivesChange$Moves", "BODIES")]
def ab_Cq : ab_X := (RX3, ab_Nl, ab_Tb, ab_Sl)
def ab_Z0 : ab_Z := (3, ab_Tb)
def ab_Ws : List Cond := lw_tbl.filter goodWord
/-- the tables, in pieces: word i of piece j is number 1000 j + i -/
def ab_tb : Nat → List Cond := fun j => match j with
  | 0 => k2_sels lw_privs
  | 1 => tables_1_1
  | 2 => tables_1_2
  | 3 => tables_1_3
  | 4 => tables_1_4
  | 5 => tables_1_5
  | 6 => tables_1_6
  | _ => []
def ab_wn (i : Nat) : Option Cond := (ab_tb (i / 1000))[i % 1000]?
theorem ab_tb_in {j : Nat} {w : Cond} (h : w ∈ ab_tb j) : w ∈ lw_tbl := by
  unfold ab_tb at h
  split at h
  · exact List.mem_append_left _ h
  · exact List.mem_append_right _ (show w ∈ tables_1 from List.mem_append_left _ h)
  · exact List.mem_append_right _ (show w ∈ tables_1 from List.mem_append_right _ (List.mem_append_left _ h))
  · exact List.mem_append_right _ (show w ∈ tables_1 from List.mem_append_right _ (List.mem_append_right _ (List.mem_append_left _ h)))
  · exact List.mem_append_right _ (show w ∈ tables_1 from List.mem_append_right _ (List.mem_append_right _ (List.mem_append_right _ (List.mem_append_left _ h))))
  · exact List.mem_append_right _ (show w ∈ tables_1 from List.mem_append_right _ (List.mem_append_right _ (List.mem_append_right _ (List.mem_append_right _ (List.mem_append_left _ h)))))
  · exact List.mem_append_right _ (show w ∈ tables_1 from List.mem_append_right _ (List.mem_append_right _ (List.mem_append_right _ (List.mem_append_right _ (List.mem_append_right _ (h))))))
  · cases h
theorem ab_wn_in {i : Nat} {w : Cond} (h : ab_wn i = some w) : w ∈ lw_tbl := ab_tb_in (List.mem_of_getElem? h)
theorem ab_Ws_good : GoodIn ab_Ws ab_Ws := fun w h => ⟨h, good_of_word (List.mem_filter.mp h).2⟩
theorem ab_Ws_tbl : GoodIn lw_tbl ab_Ws := fun w h => ⟨(List.mem_filter.mp h).1, good_of_word (List.mem_filter.mp h).2⟩
theorem ab_inW {ws : List Cond} (ps : List Nat) (h : ws = ps.filterMap ab_wn) (hg : ws.all goodWord = true) : ∀ w ∈ ws, w ∈ ab_Ws := by
  intro w hw
  refine List.mem_filter.mpr ⟨?_, List.all_eq_true.mp hg w hw⟩
  rw [h] at hw
  obtain ⟨i, -, hi⟩ := List.mem_filterMap.mp hw
  exact ab_wn_in hi
theorem ab_Nl_in : ∀ q ∈ ab_Nl, Cond.methodLinkNest q.1 q.2.1 q.2.2.1 q.2.2.2 ∈ lw_tbl := List.forall_mem_cons.mpr ⟨ab_wn_in (i := 1104) (by decide +kernel), List.forall_mem_cons.mpr ⟨ab_wn_in (i := 1114) (by decide +kernel), List.forall_mem_cons.mpr ⟨ab_wn_in (i := 1143) (by decide +kernel), List.forall_mem_cons.mpr ⟨ab_wn_in (i := 1165) (by decide +kernel), fun _ h => absurd h List.not_mem_nil⟩⟩⟩⟩
def ab_G : Nat → Option ab_T := fun ci => match ci with
  | 0 => some (RX0, TX0, 1, tyX0)
  | 1 => some (RX1, TX1, 5, tyX1)
  | 2 => some (RX2, TX2, 6, tyX2)
  | 3 => some (RX3, TX3, 3, tyX3)
  | 4 => some (RX4, TX4, 15, tyX4)
  | 5 => some (RX5, TX5, 10, tyX5)
  | 6 => some (RX6, TX6, 49, tyX6)
  | _ => none
theorem ab_lX0 : ∀ w ∈ u_ws RX0 TX0 1, w ∈ ab_Ws := ab_inW [1109] (by decide +kernel) (by decide +kernel)
theorem ab_dX0 : ∀ k, k < 1 → (TX0 k).1 = RX0 := by decide +kernel
theorem ab_lX1 : ∀ w ∈ u_ws RX1 TX1 5, w ∈ ab_Ws := ab_inW [1153, 1155, 1157, 1159, 1161] (by decide +kernel) (by decide +kernel)
theorem ab_dX1 : ∀ k, k < 5 → (TX1 k).1 = RX1 := by decide +kernel
theorem ab_lX2 : ∀ w ∈ u_ws RX2 TX2 6, w ∈ ab_Ws := ab_inW [1128, 1130, 1132, 1134, 1136, 1138] (by decide +kernel) (by decide +kernel)
theorem ab_dX2 : ∀ k, k < 6 → (TX2 k).1 = RX2 := by decide +kernel
theorem ab_lX3 : ∀ w ∈ u_ws RX3 TX3 3, w ∈ ab_Ws := ab_inW [1174, 1176, 1178] (by decide +kernel) (by decide +kernel)
theorem ab_dX3 : ∀ k, k < 3 → (TX3 k).1 = RX3 := by decide +kernel
theorem ab_lX4 : ∀ w ∈ u_ws RX4 TX4 15, w ∈ ab_Ws := ab_inW [1068, 1070, 1072, 1074, 1076, 1078, 1080, 1082, 1084, 1086, 1088, 1090, 1092, 1094, 1096] (by decide +kernel) (by decide +kernel)
theorem ab_dX4 : ∀ k, k < 15 → (TX4 k).1 = RX4 := by decide +kernel
theorem ab_lX5 : ∀ w ∈ u_ws RX5 TX5 10, w ∈ ab_Ws := ab_inW [1192, 1194, 1196, 1198, 1200, 1202, 1204, 1206, 1208, 1210] (by decide +kernel) (by decide +kernel)
theorem ab_dX5 : ∀ k, k < 10 → (TX5 k).1 = RX5 := by decide +kernel
theorem ab_lX6 : ∀ w ∈ u_ws RX6 TX6 49, w ∈ ab_Ws := ab_inW [4146, 4148, 4150, 4152, 4154, 4156, 4158, 4160, 4162, 4164, 4166, 4168, 4170, 4172, 4174, 4176, 4178, 4180, 4182, 4184, 4186, 4188, 4190, 4192, 4194, 4196, 4198, 4200, 4202, 4204, 4206, 4208, 4210, 4212, 4214, 4216, 4218, 4220, 4222, 4224, 4226, 4228, 4230, 4232, 4234, 4236, 4238, 5000, 5002] (by decide +kernel) (by decide +kernel)
theorem ab_dX6 : ∀ k, k < 49 → (TX6 k).1 = RX6 := by decide +kernel
theorem ab_cgW : ab_cg vwCl ab_Ws ab_G := by
  intro ci C T N ty h
  unfold ab_G at h
  split at h
  · cases h; exact ⟨rfl, ab_lX0, tyX0_ok, nmX0, ab_dX0⟩
  · cases h; exact ⟨rfl, ab_lX1, tyX1_ok, nmX1, ab_dX1⟩
  · cases h; exact ⟨rfl, ab_lX2, tyX2_ok, nmX2, ab_dX2⟩
  · cases h; exact ⟨rfl, ab_lX3, tyX3_ok, nmX3, ab_dX3⟩
  · cases h; exact ⟨rfl, ab_lX4, tyX4_ok, nmX4, ab_dX4⟩
  · cases h; exact ⟨rfl, ab_lX5, tyX5_ok, nmX5, ab_dX5⟩
  · cases h; exact ⟨rfl, ab_lX6, tyX6_ok, nmX6, ab_dX6⟩
  · cases h
def ab_M : List ab_D := [mX0_init, mX0_bitsBy, mX0_weigh, mX0_putIn, mX0_fewestFor, mX0_amountsOf, mX1_init, mX1_bodyAt, mX1_answer, mX1_begin, mX1_bodyOf, mX1_kindWithBody, mX1_answerFrom, mX2_init, mX2_read, mX2_readItem, mX2_readPiece, mX2_readPerson, mX2_readCost, mX2_readHas, mX2_readBack, mX2_readWord, mX2_spelt, mX2_lettersAsIn, mX2_stands, mX2_readSign, mX2_readNumber, mX2_isDigit, mX2_readDigit, mX3_init, mX3_holdRow, mX3_holdPiece, mX3_isEmpty, mX3_isOtherThanRow, mX3_isOfOtherSort, mX3_hasElement, mX3_hasStretch, mX3_put, mX3_lowestBits, mX3_copyTo, mX3_whole, mX3_read, mX3_readAll, mX3_first, mX3_second, mX4_init, mX4_isKind, mX4_isWish, mX4_isAmount, mX4_isBit, mX4_isPiece, mX4_isPerson, mX4_hasRoomForPiece, mX4_hasRoomForPerson, mX4_isOfKind, mX4_take, mX4_addPiece, mX4_addPerson, mX4_worthOf, mX4_harmOf, mX4_worthOfBits, mX4_harmOfBits, mX4_bitsAt, mX4_basin, mX4_wanting, mX4_grantedTogether, mX4_priceFor, mX4_priceByCost, mX4_bestThrow, mX4_greedyFor, mX4_greatestUpTo, mX4_grant, mX4_draw, mX4_drawDay, mX4_throwIn, mX5_init, mX5_row, mX5_set, mX5_copy, mX5_element, mX5_show, mX5_holds, mX5_says, mX5_piece, mX5_person, mX5_cost, mX5_rule, mX5_tell, mX5_pieceOf, mX5_personOf, mX5_square, mX5_fault, mX5_price, mX5_change, mX5_harm, mX5_best, mX5_fails, mX5_amounts, mX5_run, mX5_rules, mX5_costs, mX5_dear, mX5_rich, mX5_judge, mX5_behind, mX5_done, mX5_cast, mX5_back, mX5_days, mX5_seed, mX5_act, mX5_trace, mX5_image, mX5_restore, mX5_status, mX5_isFrom, mX5_isOneOfTwo, mX5_isShelf, mX5_refuse, mX5_whyNoRow, mX5_whyNoTwos, mX5_tellOne, mX5_throwBy, mX5_draftDay, mX5_areAllThere, mX5_isCost, mX5_dearest, mX5_crowd, mX6_init, mX6_no, mX6_noTen, mX6_isShelf, mX6_isPiece, mX6_isOne, mX6_isFrom, mX6_row, mX6_set, mX6_copy, mX6_element, mX6_show, mX6_holds, mX6_says, mX6_wanted, mX6_intAt, mX6_worth, mX6_harms, mX6_addsPiece, mX6_addsPerson, mX6_piece, mX6_person, mX6_cost, mX6_rule, mX6_tell, mX6_piecesOf, mX6_pieceOf, mX6_personOf, mX6_wrong, mX6_stands, mX6_word, mX6_isDigit, mX6_reads, mX6_isSo, mX6_item, mX6_carries, mX6_all, mX6_square, mX6_fault, mX6_many, mX6_worthOf, mX6_harmOf, mX6_tellsBest, mX6_greedyFor, mX6_changeFor, mX6_change, mX6_priceFor, mX6_price, mX6_thrown, mX6_tellsThrow, mX6_harm, mX6_best, mX6_fails, mX6_manyAmounts, mX6_amounts, mX6_throwsIn, mX6_runs, mX6_run, mX6_barsOf, mX6_rules, mX6_costs, mX6_dearest, mX6_wanting, mX6_dear, mX6_rich, mX6_goes, mX6_judge, mX6_behind, mX6_done, mX6_cast, mX6_back, mX6_draw, mX6_day, mX6_allGranted, mX6_days, mX6_seed, mX6_body, mX6_falling, mX6_ringing, mX6_sinking, mX6_act, mX6_trace, mX6_image, mX6_restore, mX6_status, mJ6_bitCount_0f7a4, mJ7_fill_d0a16, mJ7_fill_53178]
def ab_ck1 (md : ab_D) (cp : Nat) : Bool := plainName md.1.cls && (decide (md.1.cls ≠ "java/lang/invoke/MethodHandle") && (decide (md.1.cls ≠ "java/lang/invoke/VarHandle") && (decide ((parseMethodDescriptor md.1.desc).map (fun d => d.parameters.length) = some md.2.2.2.2.2.1) && (decide (ab_wn cp = some (.code md.1 md.2.1 md.2.2.1 md.2.2.2.1)) && (decide (md.2.2.1 ≤ 81) && ((!md.2.2.2.2.2.2.1 || decide (md.1.name = "<init>")) && (match ab_G md.2.2.2.2.1 with
  | some (C, _, _, _) => decide (C = md.1.cls)
  | none => true)))))))
def ab_ck2 (md : ab_D) (pc : Nat) : Bool := match ab_at md pc with
  | none => true
  | some (ins, len, k, ps) => decide (decode md.2.1 pc = .ok (ins, len)) && (decide (ab_wd ab_Sl ab_M ab_G md.1.cls ins k = ps.filterMap ab_wn) && ((ab_wd ab_Sl ab_M ab_G md.1.cls ins k).all goodWord && ((decide (k.1 ≠ 15) || (match ins, ab_M[k.2.1]? with
    | .invokespecial i, some my => ab_Nl.any (fun q => decide (q.1 = md.1.cls ∧ q.2.1 = i ∧ q.2.2.1 = my.1))
    | _, _ => false)) && (decide (k.1 ≠ 13) || decide (k.2.1 < 2)))))
def ab_ckr (md : ab_D) (j : Nat) : Bool := (List.range 128).all (fun i => ab_ck2 md (128 * j + i))
theorem ab_ck_at {md : ab_D} {J : Nat} (h2 : ∀ j, j < J → ab_ckr md j = true) (hJ : 16 * md.2.2.2.2.2.2.2.length ≤ 128 * J) : ∀ (pc : Nat) (ins : Instr) (len : Nat) (k : ab_K) (ps : List Nat), ab_at md pc = some (ins, len, k, ps) → decode md.2.1 pc = .ok (ins, len) ∧ (∀ w ∈ ab_wd ab_Sl ab_M ab_G md.1.cls ins k, w ∈ ab_Ws) ∧ ab_nd ab_Nl ab_Sl ab_M md.1.cls ins k := by
  intro pc ins len k ps hat
  have hpc : pc < 16 * md.2.2.2.2.2.2.2.length := by
    unfold ab_at at hat
    split at hat
    · rename_i row hr
      have := (List.getElem?_eq_some_iff.mp hr).1
      omega
    · cases hat
  have h3 := List.all_eq_true.mp (h2 (pc / 128) (by omega)) (pc % 128) (List.mem_range.mpr (by omega))
  rw [show 128 * (pc / 128) + pc % 128 = pc by omega] at h3
  unfold ab_ck2 at h3
  rw [hat] at h3
  simp only [Bool.and_eq_true, decide_eq_true_eq] at h3
  refine ⟨h3.1, ab_inW ps h3.2.1 h3.2.2.1, fun i my hi hk hmy => ?_, fun i hi hk => ?_⟩
  rotate_left
  · have h5 := h3.2.2.2.2
    rw [hk] at h5
    have h5 : k.2.1 < 2 := by simpa using h5
    intro q
    have q2 := List.getElem?_eq_none_iff.mp q
    exact absurd h5 (Nat.not_lt.mpr q2)
  have h4 := h3.2.2.2.1
  subst hi
  rw [hmy, hk] at h4
  simp only [ne_eq, not_true_eq_false, decide_false, Bool.false_or, List.any_eq_true, decide_eq_true_eq] at h4
  obtain ⟨q, hq, e1, e2, e3⟩ := h4
  exact ⟨q.2.2.2, by rw [← e1, ← e2, ← e3]; exact hq⟩
theorem ab_ck_ok {md : ab_D} {cp J : Nat} (h1 : ab_ck1 md cp = true) (h2 : ∀ j, j < J → ab_ckr md j = true) (hJ : 16 * md.2.2.2.2.2.2.2.length ≤ 128 * J) : ab_ok ab_Nl ab_Sl ab_M ab_G ab_Ws md := by
  unfold ab_ck1 at h1
  simp only [Bool.and_eq_true, decide_eq_true_eq] at h1
  obtain ⟨a1, a2, a3, a4, a5, a6, a7, a8⟩ := h1
  refine ⟨a1, ⟨a2, a3, a4⟩, List.mem_filter.mpr ⟨ab_wn_in a5, rfl⟩, a6, fun q => ?_, fun C T N ty hg => ?_, fun pc ins len k ps hat => ?_⟩
  · rw [q] at a7
    simpa using a7
  · rw [hg] at a8
    exact of_decide_eq_true a8
  · exact ab_ck_at h2 hJ pc ins len k ps hat
end
section
/-! method by method; by program (wip/tools/tables.py) -/
theorem kX0_init : ab_ck1 mX0_init 1106 = true := by decide +kernel
theorem kX0_init_0 : ab_ckr mX0_init 0 = true := by decide +kernel
theorem oX0_init : ab_ok ab_Nl ab_Sl ab_M ab_G ab_Ws mX0_init := ab_ck_ok (J := 1) kX0_init (fun j h => by
  match j, h with
  | 0, _ => exact kX0_init_0) (by decide +kernel)
theorem kX0_bitsBy : ab_ck1 mX0_bitsBy 3089 = true := by decide +kernel
theorem kX0_bitsBy_0 : ab_ckr mX0_bitsBy 0 = true := by decide +kernel
theorem oX0_bitsBy : ab_ok ab_Nl ab_Sl ab_M ab_G ab_Ws mX0_bitsBy := ab_ck_ok (J := 1) kX0_bitsBy (fun j h => by
  match j, h with
  | 0, _ => exact kX0_bitsBy_0) (by decide +kernel)
theorem kX0_weigh : ab_ck1 mX0_weigh 3111 = true := by decide +kernel
theorem kX0_weigh_0 : ab_ckr mX0_weigh 0 = true := by decide +kernel
theorem oX0_weigh : ab_ok ab_Nl ab_Sl ab_M ab_G ab_Ws mX0_weigh := ab_ck_ok (J := 1) kX0_weigh (fun j h => by
  match j, h with
  | 0, _ => exact kX0_weigh_0) (by decide +kernel)
theorem kX0_putIn : ab_ck1 mX0_putIn 3122 = true := by decide +kernel
theorem kX0_putIn_0 : ab_ckr mX0_putIn 0 = true := by decide +kernel
theorem oX0_putIn : ab_ok ab_Nl ab_Sl ab_M ab_G ab_Ws mX0_putIn := ab_ck_ok (J := 1) kX0_putIn (fun j h => by
  match j, h with
  | 0, _ => exact kX0_putIn_0) (by decide +kernel)
theorem kX0_fewestFor : ab_ck1 mX0_fewestFor 3126 = true := by decide +kernel
theorem kX0_fewestFor_0 : ab_ckr mX0_fewestFor 0 = true := by decide +kernel
theorem oX0_fewestFor : ab_ok ab_Nl ab_Sl ab_M ab_G ab_Ws mX0_fewestFor := ab_ck_ok (J := 1) kX0_fewestFor (fun j h => by
  match j, h with
  | 0, _ => exact kX0_fewestFor_0) (by decide +kernel)
theorem kX0_amountsOf : ab_ck1 mX0_amountsOf 3171 = true := by decide +kernel
theorem kX0_amountsOf_0 : ab_ckr mX0_amountsOf 0 = true := by decide +kernel
theorem oX0_amountsOf : ab_ok ab_Nl ab_Sl ab_M ab_G ab_Ws mX0_amountsOf := ab_ck_ok (J := 1) kX0_amountsOf (fun j h => by
  match j, h with
  | 0, _ => exact kX0_amountsOf_0) (by decide +kernel)
theorem kX1_init : ab_ck1 mX1_init 1145 = true := by decide +kernel
theorem kX1_init_0 : ab_ckr mX1_init 0 = true := by decide +kernel
theorem oX1_init : ab_ok ab_Nl ab_Sl ab_M ab_G ab_Ws mX1_init := ab_ck_ok (J := 1) kX1_init (fun j h => by
  match j, h with
  | 0, _ => exact kX1_init_0) (by decide +kernel)
theorem kX1_bodyAt : ab_ck1 mX1_bodyAt 4078 = true := by decide +kernel
theorem kX1_bodyAt_0 : ab_ckr mX1_bodyAt 0 = true := by decide +kernel
theorem oX1_bodyAt : ab_ok ab_Nl ab_Sl ab_M ab_G ab_Ws mX1_bodyAt := ab_ck_ok (J := 1) kX1_bodyAt (fun j h => by
  match j, h with
  | 0, _ => exact kX1_bodyAt_0) (by decide +kernel)
theorem kX1_answer : ab_ck1 mX1_answer 4052 = true := by decide +kernel
theorem kX1_answer_0 : ab_ckr mX1_answer 0 = true := by decide +kernel
theorem oX1_answer : ab_ok ab_Nl ab_Sl ab_M ab_G ab_Ws mX1_answer := ab_ck_ok (J := 1) kX1_answer (fun j h => by
  match j, h with
  | 0, _ => exact kX1_answer_0) (by decide +kernel)
theorem kX1_begin : ab_ck1 mX1_begin 4070 = true := by decide +kernel
theorem kX1_begin_0 : ab_ckr mX1_begin 0 = true := by decide +kernel
theorem oX1_begin : ab_ok ab_Nl ab_Sl ab_M ab_G ab_Ws mX1_begin := ab_ck_ok (J := 1) kX1_begin (fun j h => by
  match j, h with
  | 0, _ => exact kX1_begin_0) (by decide +kernel)
theorem kX1_bodyOf : ab_ck1 mX1_bodyOf 4063 = true := by decide +kernel
theorem kX1_bodyOf_0 : ab_ckr mX1_bodyOf 0 = true := by decide +kernel
theorem oX1_bodyOf : ab_ok ab_Nl ab_Sl ab_M ab_G ab_Ws mX1_bodyOf := ab_ck_ok (J := 1) kX1_bodyOf (fun j h => by
  match j, h with
  | 0, _ => exact kX1_bodyOf_0) (by decide +kernel)
theorem kX1_kindWithBody : ab_ck1 mX1_kindWithBody 4060 = true := by decide +kernel
theorem kX1_kindWithBody_0 : ab_ckr mX1_kindWithBody 0 = true := by decide +kernel
theorem oX1_kindWithBody : ab_ok ab_Nl ab_Sl ab_M ab_G ab_Ws mX1_kindWithBody := ab_ck_ok (J := 1) kX1_kindWithBody (fun j h => by
  match j, h with
  | 0, _ => exact kX1_kindWithBody_0) (by decide +kernel)
theorem kX1_answerFrom : ab_ck1 mX1_answerFrom 4056 = true := by decide +kernel
theorem kX1_answerFrom_0 : ab_ckr mX1_answerFrom 0 = true := by decide +kernel
theorem kX1_answerFrom_1 : ab_ckr mX1_answerFrom 1 = true := by decide +kernel
theorem kX1_answerFrom_2 : ab_ckr mX1_answerFrom 2 = true := by decide +kernel
theorem oX1_answerFrom : ab_ok ab_Nl ab_Sl ab_M ab_G ab_Ws mX1_answerFrom := ab_ck_ok (J := 3) kX1_answerFrom (fun j h => by
  match j, h with
  | 0, _ => exact kX1_answerFrom_0
  | 1, _ => exact kX1_answerFrom_1
  | 2, _ => exact kX1_answerFrom_2) (by decide +kernel)
theorem kX2_init : ab_ck1 mX2_init 1116 = true := by decide +kernel
theorem kX2_init_0 : ab_ckr mX2_init 0 = true := by decide +kernel
theorem oX2_init : ab_ok ab_Nl ab_Sl ab_M ab_G ab_Ws mX2_init := ab_ck_ok (J := 1) kX2_init (fun j h => by
  match j, h with
  | 0, _ => exact kX2_init_0) (by decide +kernel)
theorem kX2_read : ab_ck1 mX2_read 2161 = true := by decide +kernel
theorem kX2_read_0 : ab_ckr mX2_read 0 = true := by decide +kernel
theorem oX2_read : ab_ok ab_Nl ab_Sl ab_M ab_G ab_Ws mX2_read := ab_ck_ok (J := 1) kX2_read (fun j h => by
  match j, h with
  | 0, _ => exact kX2_read_0) (by decide +kernel)
theorem kX2_readItem : ab_ck1 mX2_readItem 2182 = true := by decide +kernel
theorem kX2_readItem_0 : ab_ckr mX2_readItem 0 = true := by decide +kernel
theorem oX2_readItem : ab_ok ab_Nl ab_Sl ab_M ab_G ab_Ws mX2_readItem := ab_ck_ok (J := 1) kX2_readItem (fun j h => by
  match j, h with
  | 0, _ => exact kX2_readItem_0) (by decide +kernel)
theorem kX2_readPiece : ab_ck1 mX2_readPiece 3017 = true := by decide +kernel
theorem kX2_readPiece_0 : ab_ckr mX2_readPiece 0 = true := by decide +kernel
theorem oX2_readPiece : ab_ok ab_Nl ab_Sl ab_M ab_G ab_Ws mX2_readPiece := ab_ck_ok (J := 1) kX2_readPiece (fun j h => by
  match j, h with
  | 0, _ => exact kX2_readPiece_0) (by decide +kernel)
theorem kX2_readPerson : ab_ck1 mX2_readPerson 3039 = true := by decide +kernel
theorem kX2_readPerson_0 : ab_ckr mX2_readPerson 0 = true := by decide +kernel
theorem oX2_readPerson : ab_ok ab_Nl ab_Sl ab_M ab_G ab_Ws mX2_readPerson := ab_ck_ok (J := 1) kX2_readPerson (fun j h => by
  match j, h with
  | 0, _ => exact kX2_readPerson_0) (by decide +kernel)
theorem kX2_readCost : ab_ck1 mX2_readCost 3045 = true := by decide +kernel
theorem kX2_readCost_0 : ab_ckr mX2_readCost 0 = true := by decide +kernel
theorem oX2_readCost : ab_ok ab_Nl ab_Sl ab_M ab_G ab_Ws mX2_readCost := ab_ck_ok (J := 1) kX2_readCost (fun j h => by
  match j, h with
  | 0, _ => exact kX2_readCost_0) (by decide +kernel)
theorem kX2_readHas : ab_ck1 mX2_readHas 3049 = true := by decide +kernel
theorem kX2_readHas_0 : ab_ckr mX2_readHas 0 = true := by decide +kernel
theorem oX2_readHas : ab_ok ab_Nl ab_Sl ab_M ab_G ab_Ws mX2_readHas := ab_ck_ok (J := 1) kX2_readHas (fun j h => by
  match j, h with
  | 0, _ => exact kX2_readHas_0) (by decide +kernel)
theorem kX2_readBack : ab_ck1 mX2_readBack 3053 = true := by decide +kernel
theorem kX2_readBack_0 : ab_ckr mX2_readBack 0 = true := by decide +kernel
theorem oX2_readBack : ab_ok ab_Nl ab_Sl ab_M ab_G ab_Ws mX2_readBack := ab_ck_ok (J := 1) kX2_readBack (fun j h => by
  match j, h with
  | 0, _ => exact kX2_readBack_0) (by decide +kernel)
theorem kX2_readWord : ab_ck1 mX2_readWord 2186 = true := by decide +kernel
theorem kX2_readWord_0 : ab_ckr mX2_readWord 0 = true := by decide +kernel
theorem oX2_readWord : ab_ok ab_Nl ab_Sl ab_M ab_G ab_Ws mX2_readWord := ab_ck_ok (J := 1) kX2_readWord (fun j h => by
  match j, h with
  | 0, _ => exact kX2_readWord_0) (by decide +kernel)
theorem kX2_spelt : ab_ck1 mX2_spelt 2189 = true := by decide +kernel
theorem kX2_spelt_0 : ab_ckr mX2_spelt 0 = true := by decide +kernel
theorem oX2_spelt : ab_ok ab_Nl ab_Sl ab_M ab_G ab_Ws mX2_spelt := ab_ck_ok (J := 1) kX2_spelt (fun j h => by
  match j, h with
  | 0, _ => exact kX2_spelt_0) (by decide +kernel)
theorem kX2_lettersAsIn : ab_ck1 mX2_lettersAsIn 2200 = true := by decide +kernel
theorem kX2_lettersAsIn_0 : ab_ckr mX2_lettersAsIn 0 = true := by decide +kernel
theorem oX2_lettersAsIn : ab_ok ab_Nl ab_Sl ab_M ab_G ab_Ws mX2_lettersAsIn := ab_ck_ok (J := 1) kX2_lettersAsIn (fun j h => by
  match j, h with
  | 0, _ => exact kX2_lettersAsIn_0) (by decide +kernel)
theorem kX2_stands : ab_ck1 mX2_stands 3012 = true := by decide +kernel
theorem kX2_stands_0 : ab_ckr mX2_stands 0 = true := by decide +kernel
theorem oX2_stands : ab_ok ab_Nl ab_Sl ab_M ab_G ab_Ws mX2_stands := ab_ck_ok (J := 1) kX2_stands (fun j h => by
  match j, h with
  | 0, _ => exact kX2_stands_0) (by decide +kernel)
theorem kX2_readSign : ab_ck1 mX2_readSign 3026 = true := by decide +kernel
theorem kX2_readSign_0 : ab_ckr mX2_readSign 0 = true := by decide +kernel
theorem oX2_readSign : ab_ok ab_Nl ab_Sl ab_M ab_G ab_Ws mX2_readSign := ab_ck_ok (J := 1) kX2_readSign (fun j h => by
  match j, h with
  | 0, _ => exact kX2_readSign_0) (by decide +kernel)
theorem kX2_readNumber : ab_ck1 mX2_readNumber 3022 = true := by decide +kernel
theorem kX2_readNumber_0 : ab_ckr mX2_readNumber 0 = true := by decide +kernel
theorem oX2_readNumber : ab_ok ab_Nl ab_Sl ab_M ab_G ab_Ws mX2_readNumber := ab_ck_ok (J := 1) kX2_readNumber (fun j h => by
  match j, h with
  | 0, _ => exact kX2_readNumber_0) (by decide +kernel)
theorem kX2_isDigit : ab_ck1 mX2_isDigit 3030 = true := by decide +kernel
theorem kX2_isDigit_0 : ab_ckr mX2_isDigit 0 = true := by decide +kernel
theorem oX2_isDigit : ab_ok ab_Nl ab_Sl ab_M ab_G ab_Ws mX2_isDigit := ab_ck_ok (J := 1) kX2_isDigit (fun j h => by
  match j, h with
  | 0, _ => exact kX2_isDigit_0) (by decide +kernel)
theorem kX2_readDigit : ab_ck1 mX2_readDigit 3034 = true := by decide +kernel
theorem kX2_readDigit_0 : ab_ckr mX2_readDigit 0 = true := by decide +kernel
theorem oX2_readDigit : ab_ok ab_Nl ab_Sl ab_M ab_G ab_Ws mX2_readDigit := ab_ck_ok (J := 1) kX2_readDigit (fun j h => by
  match j, h with
  | 0, _ => exact kX2_readDigit_0) (by decide +kernel)
theorem kX3_init : ab_ck1 mX3_init 1167 = true := by decide +kernel
theorem kX3_init_0 : ab_ckr mX3_init 0 = true := by decide +kernel
theorem oX3_init : ab_ok ab_Nl ab_Sl ab_M ab_G ab_Ws mX3_init := ab_ck_ok (J := 1) kX3_init (fun j h => by
  match j, h with
  | 0, _ => exact kX3_init_0) (by decide +kernel)
theorem kX3_holdRow : ab_ck1 mX3_holdRow 1230 = true := by decide +kernel
theorem kX3_holdRow_0 : ab_ckr mX3_holdRow 0 = true := by decide +kernel
theorem oX3_holdRow : ab_ok ab_Nl ab_Sl ab_M ab_G ab_Ws mX3_holdRow := ab_ck_ok (J := 1) kX3_holdRow (fun j h => by
  match j, h with
  | 0, _ => exact kX3_holdRow_0) (by decide +kernel)
theorem kX3_holdPiece : ab_ck1 mX3_holdPiece 2063 = true := by decide +kernel
theorem kX3_holdPiece_0 : ab_ckr mX3_holdPiece 0 = true := by decide +kernel
theorem oX3_holdPiece : ab_ok ab_Nl ab_Sl ab_M ab_G ab_Ws mX3_holdPiece := ab_ck_ok (J := 1) kX3_holdPiece (fun j h => by
  match j, h with
  | 0, _ => exact kX3_holdPiece_0) (by decide +kernel)
theorem kX3_isEmpty : ab_ck1 mX3_isEmpty 2009 = true := by decide +kernel
theorem kX3_isEmpty_0 : ab_ckr mX3_isEmpty 0 = true := by decide +kernel
theorem oX3_isEmpty : ab_ok ab_Nl ab_Sl ab_M ab_G ab_Ws mX3_isEmpty := ab_ck_ok (J := 1) kX3_isEmpty (fun j h => by
  match j, h with
  | 0, _ => exact kX3_isEmpty_0) (by decide +kernel)
theorem kX3_isOtherThanRow : ab_ck1 mX3_isOtherThanRow 2005 = true := by decide +kernel
theorem kX3_isOtherThanRow_0 : ab_ckr mX3_isOtherThanRow 0 = true := by decide +kernel
theorem oX3_isOtherThanRow : ab_ok ab_Nl ab_Sl ab_M ab_G ab_Ws mX3_isOtherThanRow := ab_ck_ok (J := 1) kX3_isOtherThanRow (fun j h => by
  match j, h with
  | 0, _ => exact kX3_isOtherThanRow_0) (by decide +kernel)
theorem kX3_isOfOtherSort : ab_ck1 mX3_isOfOtherSort 2030 = true := by decide +kernel
theorem kX3_isOfOtherSort_0 : ab_ckr mX3_isOfOtherSort 0 = true := by decide +kernel
theorem oX3_isOfOtherSort : ab_ok ab_Nl ab_Sl ab_M ab_G ab_Ws mX3_isOfOtherSort := ab_ck_ok (J := 1) kX3_isOfOtherSort (fun j h => by
  match j, h with
  | 0, _ => exact kX3_isOfOtherSort_0) (by decide +kernel)
theorem kX3_hasElement : ab_ck1 mX3_hasElement 2013 = true := by decide +kernel
theorem kX3_hasElement_0 : ab_ckr mX3_hasElement 0 = true := by decide +kernel
theorem oX3_hasElement : ab_ok ab_Nl ab_Sl ab_M ab_G ab_Ws mX3_hasElement := ab_ck_ok (J := 1) kX3_hasElement (fun j h => by
  match j, h with
  | 0, _ => exact kX3_hasElement_0) (by decide +kernel)
theorem kX3_hasStretch : ab_ck1 mX3_hasStretch 2035 = true := by decide +kernel
theorem kX3_hasStretch_0 : ab_ckr mX3_hasStretch 0 = true := by decide +kernel
theorem oX3_hasStretch : ab_ok ab_Nl ab_Sl ab_M ab_G ab_Ws mX3_hasStretch := ab_ck_ok (J := 1) kX3_hasStretch (fun j h => by
  match j, h with
  | 0, _ => exact kX3_hasStretch_0) (by decide +kernel)
theorem kX3_put : ab_ck1 mX3_put 2017 = true := by decide +kernel
theorem kX3_put_0 : ab_ckr mX3_put 0 = true := by decide +kernel
theorem oX3_put : ab_ok ab_Nl ab_Sl ab_M ab_G ab_Ws mX3_put := ab_ck_ok (J := 1) kX3_put (fun j h => by
  match j, h with
  | 0, _ => exact kX3_put_0) (by decide +kernel)
theorem kX3_lowestBits : ab_ck1 mX3_lowestBits 2022 = true := by decide +kernel
theorem kX3_lowestBits_0 : ab_ckr mX3_lowestBits 0 = true := by decide +kernel
theorem oX3_lowestBits : ab_ok ab_Nl ab_Sl ab_M ab_G ab_Ws mX3_lowestBits := ab_ck_ok (J := 1) kX3_lowestBits (fun j h => by
  match j, h with
  | 0, _ => exact kX3_lowestBits_0) (by decide +kernel)
theorem kX3_copyTo : ab_ck1 mX3_copyTo 2039 = true := by decide +kernel
theorem kX3_copyTo_0 : ab_ckr mX3_copyTo 0 = true := by decide +kernel
theorem oX3_copyTo : ab_ok ab_Nl ab_Sl ab_M ab_G ab_Ws mX3_copyTo := ab_ck_ok (J := 1) kX3_copyTo (fun j h => by
  match j, h with
  | 0, _ => exact kX3_copyTo_0) (by decide +kernel)
theorem kX3_whole : ab_ck1 mX3_whole 2051 = true := by decide +kernel
theorem kX3_whole_0 : ab_ckr mX3_whole 0 = true := by decide +kernel
theorem oX3_whole : ab_ok ab_Nl ab_Sl ab_M ab_G ab_Ws mX3_whole := ab_ck_ok (J := 1) kX3_whole (fun j h => by
  match j, h with
  | 0, _ => exact kX3_whole_0) (by decide +kernel)
theorem kX3_read : ab_ck1 mX3_read 2177 = true := by decide +kernel
theorem kX3_read_0 : ab_ckr mX3_read 0 = true := by decide +kernel
theorem oX3_read : ab_ok ab_Nl ab_Sl ab_M ab_G ab_Ws mX3_read := ab_ck_ok (J := 1) kX3_read (fun j h => by
  match j, h with
  | 0, _ => exact kX3_read_0) (by decide +kernel)
theorem kX3_readAll : ab_ck1 mX3_readAll 2170 = true := by decide +kernel
theorem kX3_readAll_0 : ab_ckr mX3_readAll 0 = true := by decide +kernel
theorem oX3_readAll : ab_ok ab_Nl ab_Sl ab_M ab_G ab_Ws mX3_readAll := ab_ck_ok (J := 1) kX3_readAll (fun j h => by
  match j, h with
  | 0, _ => exact kX3_readAll_0) (by decide +kernel)
theorem kX3_first : ab_ck1 mX3_first 3187 = true := by decide +kernel
theorem kX3_first_0 : ab_ckr mX3_first 0 = true := by decide +kernel
theorem oX3_first : ab_ok ab_Nl ab_Sl ab_M ab_G ab_Ws mX3_first := ab_ck_ok (J := 1) kX3_first (fun j h => by
  match j, h with
  | 0, _ => exact kX3_first_0) (by decide +kernel)
theorem kX3_second : ab_ck1 mX3_second 3191 = true := by decide +kernel
theorem kX3_second_0 : ab_ckr mX3_second 0 = true := by decide +kernel
theorem oX3_second : ab_ok ab_Nl ab_Sl ab_M ab_G ab_Ws mX3_second := ab_ck_ok (J := 1) kX3_second (fun j h => by
  match j, h with
  | 0, _ => exact kX3_second_0) (by decide +kernel)
theorem kX4_init : ab_ck1 mX4_init 1028 = true := by decide +kernel
theorem kX4_init_0 : ab_ckr mX4_init 0 = true := by decide +kernel
theorem kX4_init_1 : ab_ckr mX4_init 1 = true := by decide +kernel
theorem oX4_init : ab_ok ab_Nl ab_Sl ab_M ab_G ab_Ws mX4_init := ab_ck_ok (J := 2) kX4_init (fun j h => by
  match j, h with
  | 0, _ => exact kX4_init_0
  | 1, _ => exact kX4_init_1) (by decide +kernel)
theorem kX4_isKind : ab_ck1 mX4_isKind 2074 = true := by decide +kernel
theorem kX4_isKind_0 : ab_ckr mX4_isKind 0 = true := by decide +kernel
theorem oX4_isKind : ab_ok ab_Nl ab_Sl ab_M ab_G ab_Ws mX4_isKind := ab_ck_ok (J := 1) kX4_isKind (fun j h => by
  match j, h with
  | 0, _ => exact kX4_isKind_0) (by decide +kernel)
theorem kX4_isWish : ab_ck1 mX4_isWish 2112 = true := by decide +kernel
theorem kX4_isWish_0 : ab_ckr mX4_isWish 0 = true := by decide +kernel
theorem oX4_isWish : ab_ok ab_Nl ab_Sl ab_M ab_G ab_Ws mX4_isWish := ab_ck_ok (J := 1) kX4_isWish (fun j h => by
  match j, h with
  | 0, _ => exact kX4_isWish_0) (by decide +kernel)
theorem kX4_isAmount : ab_ck1 mX4_isAmount 3085 = true := by decide +kernel
theorem kX4_isAmount_0 : ab_ckr mX4_isAmount 0 = true := by decide +kernel
theorem oX4_isAmount : ab_ok ab_Nl ab_Sl ab_M ab_G ab_Ws mX4_isAmount := ab_ck_ok (J := 1) kX4_isAmount (fun j h => by
  match j, h with
  | 0, _ => exact kX4_isAmount_0) (by decide +kernel)
theorem kX4_isBit : ab_ck1 mX4_isBit 3106 = true := by decide +kernel
theorem kX4_isBit_0 : ab_ckr mX4_isBit 0 = true := by decide +kernel
theorem oX4_isBit : ab_ok ab_Nl ab_Sl ab_M ab_G ab_Ws mX4_isBit := ab_ck_ok (J := 1) kX4_isBit (fun j h => by
  match j, h with
  | 0, _ => exact kX4_isBit_0) (by decide +kernel)
theorem kX4_isPiece : ab_ck1 mX4_isPiece 2059 = true := by decide +kernel
theorem kX4_isPiece_0 : ab_ckr mX4_isPiece 0 = true := by decide +kernel
theorem oX4_isPiece : ab_ok ab_Nl ab_Sl ab_M ab_G ab_Ws mX4_isPiece := ab_ck_ok (J := 1) kX4_isPiece (fun j h => by
  match j, h with
  | 0, _ => exact kX4_isPiece_0) (by decide +kernel)
theorem kX4_isPerson : ab_ck1 mX4_isPerson 2137 = true := by decide +kernel
theorem kX4_isPerson_0 : ab_ckr mX4_isPerson 0 = true := by decide +kernel
theorem oX4_isPerson : ab_ok ab_Nl ab_Sl ab_M ab_G ab_Ws mX4_isPerson := ab_ck_ok (J := 1) kX4_isPerson (fun j h => by
  match j, h with
  | 0, _ => exact kX4_isPerson_0) (by decide +kernel)
theorem kX4_hasRoomForPiece : ab_ck1 mX4_hasRoomForPiece 2100 = true := by decide +kernel
theorem kX4_hasRoomForPiece_0 : ab_ckr mX4_hasRoomForPiece 0 = true := by decide +kernel
theorem oX4_hasRoomForPiece : ab_ok ab_Nl ab_Sl ab_M ab_G ab_Ws mX4_hasRoomForPiece := ab_ck_ok (J := 1) kX4_hasRoomForPiece (fun j h => by
  match j, h with
  | 0, _ => exact kX4_hasRoomForPiece_0) (by decide +kernel)
theorem kX4_hasRoomForPerson : ab_ck1 mX4_hasRoomForPerson 2116 = true := by decide +kernel
theorem kX4_hasRoomForPerson_0 : ab_ckr mX4_hasRoomForPerson 0 = true := by decide +kernel
theorem oX4_hasRoomForPerson : ab_ok ab_Nl ab_Sl ab_M ab_G ab_Ws mX4_hasRoomForPerson := ab_ck_ok (J := 1) kX4_hasRoomForPerson (fun j h => by
  match j, h with
  | 0, _ => exact kX4_hasRoomForPerson_0) (by decide +kernel)
theorem kX4_isOfKind : ab_ck1 mX4_isOfKind 2078 = true := by decide +kernel
theorem kX4_isOfKind_0 : ab_ckr mX4_isOfKind 0 = true := by decide +kernel
theorem oX4_isOfKind : ab_ok ab_Nl ab_Sl ab_M ab_G ab_Ws mX4_isOfKind := ab_ck_ok (J := 1) kX4_isOfKind (fun j h => by
  match j, h with
  | 0, _ => exact kX4_isOfKind_0) (by decide +kernel)
theorem kX4_take : ab_ck1 mX4_take 2165 = true := by decide +kernel
theorem kX4_take_0 : ab_ckr mX4_take 0 = true := by decide +kernel
theorem kX4_take_1 : ab_ckr mX4_take 1 = true := by decide +kernel
theorem oX4_take : ab_ok ab_Nl ab_Sl ab_M ab_G ab_Ws mX4_take := ab_ck_ok (J := 2) kX4_take (fun j h => by
  match j, h with
  | 0, _ => exact kX4_take_0
  | 1, _ => exact kX4_take_1) (by decide +kernel)
theorem kX4_addPiece : ab_ck1 mX4_addPiece 2104 = true := by decide +kernel
theorem kX4_addPiece_0 : ab_ckr mX4_addPiece 0 = true := by decide +kernel
theorem oX4_addPiece : ab_ok ab_Nl ab_Sl ab_M ab_G ab_Ws mX4_addPiece := ab_ck_ok (J := 1) kX4_addPiece (fun j h => by
  match j, h with
  | 0, _ => exact kX4_addPiece_0) (by decide +kernel)
theorem kX4_addPerson : ab_ck1 mX4_addPerson 2120 = true := by decide +kernel
theorem kX4_addPerson_0 : ab_ckr mX4_addPerson 0 = true := by decide +kernel
theorem oX4_addPerson : ab_ok ab_Nl ab_Sl ab_M ab_G ab_Ws mX4_addPerson := ab_ck_ok (J := 1) kX4_addPerson (fun j h => by
  match j, h with
  | 0, _ => exact kX4_addPerson_0) (by decide +kernel)
theorem kX4_worthOf : ab_ck1 mX4_worthOf 2089 = true := by decide +kernel
theorem kX4_worthOf_0 : ab_ckr mX4_worthOf 0 = true := by decide +kernel
theorem oX4_worthOf : ab_ok ab_Nl ab_Sl ab_M ab_G ab_Ws mX4_worthOf := ab_ck_ok (J := 1) kX4_worthOf (fun j h => by
  match j, h with
  | 0, _ => exact kX4_worthOf_0) (by decide +kernel)
theorem kX4_harmOf : ab_ck1 mX4_harmOf 2085 = true := by decide +kernel
theorem kX4_harmOf_0 : ab_ckr mX4_harmOf 0 = true := by decide +kernel
theorem oX4_harmOf : ab_ok ab_Nl ab_Sl ab_M ab_G ab_Ws mX4_harmOf := ab_ck_ok (J := 1) kX4_harmOf (fun j h => by
  match j, h with
  | 0, _ => exact kX4_harmOf_0) (by decide +kernel)
theorem kX4_worthOfBits : ab_ck1 mX4_worthOfBits 3226 = true := by decide +kernel
theorem kX4_worthOfBits_0 : ab_ckr mX4_worthOfBits 0 = true := by decide +kernel
theorem oX4_worthOfBits : ab_ok ab_Nl ab_Sl ab_M ab_G ab_Ws mX4_worthOfBits := ab_ck_ok (J := 1) kX4_worthOfBits (fun j h => by
  match j, h with
  | 0, _ => exact kX4_worthOfBits_0) (by decide +kernel)
theorem kX4_harmOfBits : ab_ck1 mX4_harmOfBits 3139 = true := by decide +kernel
theorem kX4_harmOfBits_0 : ab_ckr mX4_harmOfBits 0 = true := by decide +kernel
theorem oX4_harmOfBits : ab_ok ab_Nl ab_Sl ab_M ab_G ab_Ws mX4_harmOfBits := ab_ck_ok (J := 1) kX4_harmOfBits (fun j h => by
  match j, h with
  | 0, _ => exact kX4_harmOfBits_0) (by decide +kernel)
theorem kX4_bitsAt : ab_ck1 mX4_bitsAt 2153 = true := by decide +kernel
theorem kX4_bitsAt_0 : ab_ckr mX4_bitsAt 0 = true := by decide +kernel
theorem oX4_bitsAt : ab_ok ab_Nl ab_Sl ab_M ab_G ab_Ws mX4_bitsAt := ab_ck_ok (J := 1) kX4_bitsAt (fun j h => by
  match j, h with
  | 0, _ => exact kX4_bitsAt_0) (by decide +kernel)
theorem kX4_basin : ab_ck1 mX4_basin 3097 = true := by decide +kernel
theorem kX4_basin_0 : ab_ckr mX4_basin 0 = true := by decide +kernel
theorem oX4_basin : ab_ok ab_Nl ab_Sl ab_M ab_G ab_Ws mX4_basin := ab_ck_ok (J := 1) kX4_basin (fun j h => by
  match j, h with
  | 0, _ => exact kX4_basin_0) (by decide +kernel)
theorem kX4_wanting : ab_ck1 mX4_wanting 3075 = true := by decide +kernel
theorem kX4_wanting_0 : ab_ckr mX4_wanting 0 = true := by decide +kernel
theorem oX4_wanting : ab_ok ab_Nl ab_Sl ab_M ab_G ab_Ws mX4_wanting := ab_ck_ok (J := 1) kX4_wanting (fun j h => by
  match j, h with
  | 0, _ => exact kX4_wanting_0) (by decide +kernel)
theorem kX4_grantedTogether : ab_ck1 mX4_grantedTogether 4040 = true := by decide +kernel
theorem kX4_grantedTogether_0 : ab_ckr mX4_grantedTogether 0 = true := by decide +kernel
theorem oX4_grantedTogether : ab_ok ab_Nl ab_Sl ab_M ab_G ab_Ws mX4_grantedTogether := ab_ck_ok (J := 1) kX4_grantedTogether (fun j h => by
  match j, h with
  | 0, _ => exact kX4_grantedTogether_0) (by decide +kernel)
theorem kX4_priceFor : ab_ck1 mX4_priceFor 3067 = true := by decide +kernel
theorem kX4_priceFor_0 : ab_ckr mX4_priceFor 0 = true := by decide +kernel
theorem oX4_priceFor : ab_ok ab_Nl ab_Sl ab_M ab_G ab_Ws mX4_priceFor := ab_ck_ok (J := 1) kX4_priceFor (fun j h => by
  match j, h with
  | 0, _ => exact kX4_priceFor_0) (by decide +kernel)
theorem kX4_priceByCost : ab_ck1 mX4_priceByCost 3071 = true := by decide +kernel
theorem kX4_priceByCost_0 : ab_ckr mX4_priceByCost 0 = true := by decide +kernel
theorem oX4_priceByCost : ab_ok ab_Nl ab_Sl ab_M ab_G ab_Ws mX4_priceByCost := ab_ck_ok (J := 1) kX4_priceByCost (fun j h => by
  match j, h with
  | 0, _ => exact kX4_priceByCost_0) (by decide +kernel)
theorem kX4_bestThrow : ab_ck1 mX4_bestThrow 3148 = true := by decide +kernel
theorem kX4_bestThrow_0 : ab_ckr mX4_bestThrow 0 = true := by decide +kernel
theorem oX4_bestThrow : ab_ok ab_Nl ab_Sl ab_M ab_G ab_Ws mX4_bestThrow := ab_ck_ok (J := 1) kX4_bestThrow (fun j h => by
  match j, h with
  | 0, _ => exact kX4_bestThrow_0) (by decide +kernel)
theorem kX4_greedyFor : ab_ck1 mX4_greedyFor 3093 = true := by decide +kernel
theorem kX4_greedyFor_0 : ab_ckr mX4_greedyFor 0 = true := by decide +kernel
theorem oX4_greedyFor : ab_ok ab_Nl ab_Sl ab_M ab_G ab_Ws mX4_greedyFor := ab_ck_ok (J := 1) kX4_greedyFor (fun j h => by
  match j, h with
  | 0, _ => exact kX4_greedyFor_0) (by decide +kernel)
theorem kX4_greatestUpTo : ab_ck1 mX4_greatestUpTo 3102 = true := by decide +kernel
theorem kX4_greatestUpTo_0 : ab_ckr mX4_greatestUpTo 0 = true := by decide +kernel
theorem oX4_greatestUpTo : ab_ok ab_Nl ab_Sl ab_M ab_G ab_Ws mX4_greatestUpTo := ab_ck_ok (J := 1) kX4_greatestUpTo (fun j h => by
  match j, h with
  | 0, _ => exact kX4_greatestUpTo_0) (by decide +kernel)
theorem kX4_grant : ab_ck1 mX4_grant 3238 = true := by decide +kernel
theorem kX4_grant_0 : ab_ckr mX4_grant 0 = true := by decide +kernel
theorem oX4_grant : ab_ok ab_Nl ab_Sl ab_M ab_G ab_Ws mX4_grant := ab_ck_ok (J := 1) kX4_grant (fun j h => by
  match j, h with
  | 0, _ => exact kX4_grant_0) (by decide +kernel)
theorem kX4_draw : ab_ck1 mX4_draw 4026 = true := by decide +kernel
theorem kX4_draw_0 : ab_ckr mX4_draw 0 = true := by decide +kernel
theorem oX4_draw : ab_ok ab_Nl ab_Sl ab_M ab_G ab_Ws mX4_draw := ab_ck_ok (J := 1) kX4_draw (fun j h => by
  match j, h with
  | 0, _ => exact kX4_draw_0) (by decide +kernel)
theorem kX4_drawDay : ab_ck1 mX4_drawDay 4022 = true := by decide +kernel
theorem kX4_drawDay_0 : ab_ckr mX4_drawDay 0 = true := by decide +kernel
theorem oX4_drawDay : ab_ok ab_Nl ab_Sl ab_M ab_G ab_Ws mX4_drawDay := ab_ck_ok (J := 1) kX4_drawDay (fun j h => by
  match j, h with
  | 0, _ => exact kX4_drawDay_0) (by decide +kernel)
theorem kX4_throwIn : ab_ck1 mX4_throwIn 4035 = true := by decide +kernel
theorem kX4_throwIn_0 : ab_ckr mX4_throwIn 0 = true := by decide +kernel
theorem oX4_throwIn : ab_ok ab_Nl ab_Sl ab_M ab_G ab_Ws mX4_throwIn := ab_ck_ok (J := 1) kX4_throwIn (fun j h => by
  match j, h with
  | 0, _ => exact kX4_throwIn_0) (by decide +kernel)
theorem kX5_init : ab_ck1 mX5_init 1020 = true := by decide +kernel
theorem kX5_init_0 : ab_ckr mX5_init 0 = true := by decide +kernel
theorem oX5_init : ab_ok ab_Nl ab_Sl ab_M ab_G ab_Ws mX5_init := ab_ck_ok (J := 1) kX5_init (fun j h => by
  match j, h with
  | 0, _ => exact kX5_init_0) (by decide +kernel)
theorem kX5_row : ab_ck1 mX5_row 1216 = true := by decide +kernel
theorem kX5_row_0 : ab_ckr mX5_row 0 = true := by decide +kernel
theorem oX5_row : ab_ok ab_Nl ab_Sl ab_M ab_G ab_Ws mX5_row := ab_ck_ok (J := 1) kX5_row (fun j h => by
  match j, h with
  | 0, _ => exact kX5_row_0) (by decide +kernel)
theorem kX5_set : ab_ck1 mX5_set 1237 = true := by decide +kernel
theorem kX5_set_0 : ab_ckr mX5_set 0 = true := by decide +kernel
theorem oX5_set : ab_ok ab_Nl ab_Sl ab_M ab_G ab_Ws mX5_set := ab_ck_ok (J := 1) kX5_set (fun j h => by
  match j, h with
  | 0, _ => exact kX5_set_0) (by decide +kernel)
theorem kX5_copy : ab_ck1 mX5_copy 2026 = true := by decide +kernel
theorem kX5_copy_0 : ab_ckr mX5_copy 0 = true := by decide +kernel
theorem kX5_copy_1 : ab_ckr mX5_copy 1 = true := by decide +kernel
theorem oX5_copy : ab_ok ab_Nl ab_Sl ab_M ab_G ab_Ws mX5_copy := ab_ck_ok (J := 2) kX5_copy (fun j h => by
  match j, h with
  | 0, _ => exact kX5_copy_0
  | 1, _ => exact kX5_copy_1) (by decide +kernel)
theorem kX5_element : ab_ck1 mX5_element 2047 = true := by decide +kernel
theorem kX5_element_0 : ab_ckr mX5_element 0 = true := by decide +kernel
theorem oX5_element : ab_ok ab_Nl ab_Sl ab_M ab_G ab_Ws mX5_element := ab_ck_ok (J := 1) kX5_element (fun j h => by
  match j, h with
  | 0, _ => exact kX5_element_0) (by decide +kernel)
theorem kX5_show : ab_ck1 mX5_show 2055 = true := by decide +kernel
theorem kX5_show_0 : ab_ckr mX5_show 0 = true := by decide +kernel
theorem oX5_show : ab_ok ab_Nl ab_Sl ab_M ab_G ab_Ws mX5_show := ab_ck_ok (J := 1) kX5_show (fun j h => by
  match j, h with
  | 0, _ => exact kX5_show_0) (by decide +kernel)
theorem kX5_holds : ab_ck1 mX5_holds 2067 = true := by decide +kernel
theorem kX5_holds_0 : ab_ckr mX5_holds 0 = true := by decide +kernel
theorem oX5_holds : ab_ok ab_Nl ab_Sl ab_M ab_G ab_Ws mX5_holds := ab_ck_ok (J := 1) kX5_holds (fun j h => by
  match j, h with
  | 0, _ => exact kX5_holds_0) (by decide +kernel)
theorem kX5_says : ab_ck1 mX5_says 2071 = true := by decide +kernel
theorem kX5_says_0 : ab_ckr mX5_says 0 = true := by decide +kernel
theorem kX5_says_1 : ab_ckr mX5_says 1 = true := by decide +kernel
theorem oX5_says : ab_ok ab_Nl ab_Sl ab_M ab_G ab_Ws mX5_says := ab_ck_ok (J := 2) kX5_says (fun j h => by
  match j, h with
  | 0, _ => exact kX5_says_0
  | 1, _ => exact kX5_says_1) (by decide +kernel)
theorem kX5_piece : ab_ck1 mX5_piece 2096 = true := by decide +kernel
theorem kX5_piece_0 : ab_ckr mX5_piece 0 = true := by decide +kernel
theorem oX5_piece : ab_ok ab_Nl ab_Sl ab_M ab_G ab_Ws mX5_piece := ab_ck_ok (J := 1) kX5_piece (fun j h => by
  match j, h with
  | 0, _ => exact kX5_piece_0) (by decide +kernel)
theorem kX5_person : ab_ck1 mX5_person 2109 = true := by decide +kernel
theorem kX5_person_0 : ab_ckr mX5_person 0 = true := by decide +kernel
theorem oX5_person : ab_ok ab_Nl ab_Sl ab_M ab_G ab_Ws mX5_person := ab_ck_ok (J := 1) kX5_person (fun j h => by
  match j, h with
  | 0, _ => exact kX5_person_0) (by decide +kernel)
theorem kX5_cost : ab_ck1 mX5_cost 2125 = true := by decide +kernel
theorem kX5_cost_0 : ab_ckr mX5_cost 0 = true := by decide +kernel
theorem oX5_cost : ab_ok ab_Nl ab_Sl ab_M ab_G ab_Ws mX5_cost := ab_ck_ok (J := 1) kX5_cost (fun j h => by
  match j, h with
  | 0, _ => exact kX5_cost_0) (by decide +kernel)
theorem kX5_rule : ab_ck1 mX5_rule 2129 = true := by decide +kernel
theorem kX5_rule_0 : ab_ckr mX5_rule 0 = true := by decide +kernel
theorem oX5_rule : ab_ok ab_Nl ab_Sl ab_M ab_G ab_Ws mX5_rule := ab_ck_ok (J := 1) kX5_rule (fun j h => by
  match j, h with
  | 0, _ => exact kX5_rule_0) (by decide +kernel)
theorem kX5_tell : ab_ck1 mX5_tell 2133 = true := by decide +kernel
theorem kX5_tell_0 : ab_ckr mX5_tell 0 = true := by decide +kernel
theorem oX5_tell : ab_ok ab_Nl ab_Sl ab_M ab_G ab_Ws mX5_tell := ab_ck_ok (J := 1) kX5_tell (fun j h => by
  match j, h with
  | 0, _ => exact kX5_tell_0) (by decide +kernel)
theorem kX5_pieceOf : ab_ck1 mX5_pieceOf 2145 = true := by decide +kernel
theorem kX5_pieceOf_0 : ab_ckr mX5_pieceOf 0 = true := by decide +kernel
theorem oX5_pieceOf : ab_ok ab_Nl ab_Sl ab_M ab_G ab_Ws mX5_pieceOf := ab_ck_ok (J := 1) kX5_pieceOf (fun j h => by
  match j, h with
  | 0, _ => exact kX5_pieceOf_0) (by decide +kernel)
theorem kX5_personOf : ab_ck1 mX5_personOf 2149 = true := by decide +kernel
theorem kX5_personOf_0 : ab_ckr mX5_personOf 0 = true := by decide +kernel
theorem oX5_personOf : ab_ok ab_Nl ab_Sl ab_M ab_G ab_Ws mX5_personOf := ab_ck_ok (J := 1) kX5_personOf (fun j h => by
  match j, h with
  | 0, _ => exact kX5_personOf_0) (by decide +kernel)
theorem kX5_square : ab_ck1 mX5_square 2157 = true := by decide +kernel
theorem kX5_square_0 : ab_ckr mX5_square 0 = true := by decide +kernel
theorem oX5_square : ab_ok ab_Nl ab_Sl ab_M ab_G ab_Ws mX5_square := ab_ck_ok (J := 1) kX5_square (fun j h => by
  match j, h with
  | 0, _ => exact kX5_square_0) (by decide +kernel)
theorem kX5_fault : ab_ck1 mX5_fault 3059 = true := by decide +kernel
theorem kX5_fault_0 : ab_ckr mX5_fault 0 = true := by decide +kernel
theorem oX5_fault : ab_ok ab_Nl ab_Sl ab_M ab_G ab_Ws mX5_fault := ab_ck_ok (J := 1) kX5_fault (fun j h => by
  match j, h with
  | 0, _ => exact kX5_fault_0) (by decide +kernel)
theorem kX5_price : ab_ck1 mX5_price 3063 = true := by decide +kernel
theorem kX5_price_0 : ab_ckr mX5_price 0 = true := by decide +kernel
theorem oX5_price : ab_ok ab_Nl ab_Sl ab_M ab_G ab_Ws mX5_price := ab_ck_ok (J := 1) kX5_price (fun j h => by
  match j, h with
  | 0, _ => exact kX5_price_0) (by decide +kernel)
theorem kX5_change : ab_ck1 mX5_change 3079 = true := by decide +kernel
theorem kX5_change_0 : ab_ckr mX5_change 0 = true := by decide +kernel
theorem oX5_change : ab_ok ab_Nl ab_Sl ab_M ab_G ab_Ws mX5_change := ab_ck_ok (J := 1) kX5_change (fun j h => by
  match j, h with
  | 0, _ => exact kX5_change_0) (by decide +kernel)
theorem kX5_harm : ab_ck1 mX5_harm 3131 = true := by decide +kernel
theorem kX5_harm_0 : ab_ckr mX5_harm 0 = true := by decide +kernel
theorem oX5_harm : ab_ok ab_Nl ab_Sl ab_M ab_G ab_Ws mX5_harm := ab_ck_ok (J := 1) kX5_harm (fun j h => by
  match j, h with
  | 0, _ => exact kX5_harm_0) (by decide +kernel)
theorem kX5_best : ab_ck1 mX5_best 3144 = true := by decide +kernel
theorem kX5_best_0 : ab_ckr mX5_best 0 = true := by decide +kernel
theorem oX5_best : ab_ok ab_Nl ab_Sl ab_M ab_G ab_Ws mX5_best := ab_ck_ok (J := 1) kX5_best (fun j h => by
  match j, h with
  | 0, _ => exact kX5_best_0) (by decide +kernel)
theorem kX5_fails : ab_ck1 mX5_fails 3153 = true := by decide +kernel
theorem kX5_fails_0 : ab_ckr mX5_fails 0 = true := by decide +kernel
theorem kX5_fails_1 : ab_ckr mX5_fails 1 = true := by decide +kernel
theorem oX5_fails : ab_ok ab_Nl ab_Sl ab_M ab_G ab_Ws mX5_fails := ab_ck_ok (J := 2) kX5_fails (fun j h => by
  match j, h with
  | 0, _ => exact kX5_fails_0
  | 1, _ => exact kX5_fails_1) (by decide +kernel)
theorem kX5_amounts : ab_ck1 mX5_amounts 3167 = true := by decide +kernel
theorem kX5_amounts_0 : ab_ckr mX5_amounts 0 = true := by decide +kernel
theorem oX5_amounts : ab_ok ab_Nl ab_Sl ab_M ab_G ab_Ws mX5_amounts := ab_ck_ok (J := 1) kX5_amounts (fun j h => by
  match j, h with
  | 0, _ => exact kX5_amounts_0) (by decide +kernel)
theorem kX5_run : ab_ck1 mX5_run 3175 = true := by decide +kernel
theorem kX5_run_0 : ab_ckr mX5_run 0 = true := by decide +kernel
theorem oX5_run : ab_ok ab_Nl ab_Sl ab_M ab_G ab_Ws mX5_run := ab_ck_ok (J := 1) kX5_run (fun j h => by
  match j, h with
  | 0, _ => exact kX5_run_0) (by decide +kernel)
theorem kX5_rules : ab_ck1 mX5_rules 3179 = true := by decide +kernel
theorem kX5_rules_0 : ab_ckr mX5_rules 0 = true := by decide +kernel
theorem kX5_rules_1 : ab_ckr mX5_rules 1 = true := by decide +kernel
theorem oX5_rules : ab_ok ab_Nl ab_Sl ab_M ab_G ab_Ws mX5_rules := ab_ck_ok (J := 2) kX5_rules (fun j h => by
  match j, h with
  | 0, _ => exact kX5_rules_0
  | 1, _ => exact kX5_rules_1) (by decide +kernel)
theorem kX5_costs : ab_ck1 mX5_costs 3195 = true := by decide +kernel
theorem kX5_costs_0 : ab_ckr mX5_costs 0 = true := by decide +kernel
theorem kX5_costs_1 : ab_ckr mX5_costs 1 = true := by decide +kernel
theorem oX5_costs : ab_ok ab_Nl ab_Sl ab_M ab_G ab_Ws mX5_costs := ab_ck_ok (J := 2) kX5_costs (fun j h => by
  match j, h with
  | 0, _ => exact kX5_costs_0
  | 1, _ => exact kX5_costs_1) (by decide +kernel)
theorem kX5_dear : ab_ck1 mX5_dear 3208 = true := by decide +kernel
theorem kX5_dear_0 : ab_ckr mX5_dear 0 = true := by decide +kernel
theorem oX5_dear : ab_ok ab_Nl ab_Sl ab_M ab_G ab_Ws mX5_dear := ab_ck_ok (J := 1) kX5_dear (fun j h => by
  match j, h with
  | 0, _ => exact kX5_dear_0) (by decide +kernel)
theorem kX5_rich : ab_ck1 mX5_rich 3222 = true := by decide +kernel
theorem kX5_rich_0 : ab_ckr mX5_rich 0 = true := by decide +kernel
theorem oX5_rich : ab_ok ab_Nl ab_Sl ab_M ab_G ab_Ws mX5_rich := ab_ck_ok (J := 1) kX5_rich (fun j h => by
  match j, h with
  | 0, _ => exact kX5_rich_0) (by decide +kernel)
theorem kX5_judge : ab_ck1 mX5_judge 3230 = true := by decide +kernel
theorem kX5_judge_0 : ab_ckr mX5_judge 0 = true := by decide +kernel
theorem oX5_judge : ab_ok ab_Nl ab_Sl ab_M ab_G ab_Ws mX5_judge := ab_ck_ok (J := 1) kX5_judge (fun j h => by
  match j, h with
  | 0, _ => exact kX5_judge_0) (by decide +kernel)
theorem kX5_behind : ab_ck1 mX5_behind 4002 = true := by decide +kernel
theorem kX5_behind_0 : ab_ckr mX5_behind 0 = true := by decide +kernel
theorem kX5_behind_1 : ab_ckr mX5_behind 1 = true := by decide +kernel
theorem oX5_behind : ab_ok ab_Nl ab_Sl ab_M ab_G ab_Ws mX5_behind := ab_ck_ok (J := 2) kX5_behind (fun j h => by
  match j, h with
  | 0, _ => exact kX5_behind_0
  | 1, _ => exact kX5_behind_1) (by decide +kernel)
theorem kX5_done : ab_ck1 mX5_done 4006 = true := by decide +kernel
theorem kX5_done_0 : ab_ckr mX5_done 0 = true := by decide +kernel
theorem oX5_done : ab_ok ab_Nl ab_Sl ab_M ab_G ab_Ws mX5_done := ab_ck_ok (J := 1) kX5_done (fun j h => by
  match j, h with
  | 0, _ => exact kX5_done_0) (by decide +kernel)
theorem kX5_cast : ab_ck1 mX5_cast 4010 = true := by decide +kernel
theorem kX5_cast_0 : ab_ckr mX5_cast 0 = true := by decide +kernel
theorem oX5_cast : ab_ok ab_Nl ab_Sl ab_M ab_G ab_Ws mX5_cast := ab_ck_ok (J := 1) kX5_cast (fun j h => by
  match j, h with
  | 0, _ => exact kX5_cast_0) (by decide +kernel)
theorem kX5_back : ab_ck1 mX5_back 4014 = true := by decide +kernel
theorem kX5_back_0 : ab_ckr mX5_back 0 = true := by decide +kernel
theorem oX5_back : ab_ok ab_Nl ab_Sl ab_M ab_G ab_Ws mX5_back := ab_ck_ok (J := 1) kX5_back (fun j h => by
  match j, h with
  | 0, _ => exact kX5_back_0) (by decide +kernel)
theorem kX5_days : ab_ck1 mX5_days 4018 = true := by decide +kernel
theorem kX5_days_0 : ab_ckr mX5_days 0 = true := by decide +kernel
theorem oX5_days : ab_ok ab_Nl ab_Sl ab_M ab_G ab_Ws mX5_days := ab_ck_ok (J := 1) kX5_days (fun j h => by
  match j, h with
  | 0, _ => exact kX5_days_0) (by decide +kernel)
theorem kX5_seed : ab_ck1 mX5_seed 4044 = true := by decide +kernel
theorem kX5_seed_0 : ab_ckr mX5_seed 0 = true := by decide +kernel
theorem oX5_seed : ab_ok ab_Nl ab_Sl ab_M ab_G ab_Ws mX5_seed := ab_ck_ok (J := 1) kX5_seed (fun j h => by
  match j, h with
  | 0, _ => exact kX5_seed_0) (by decide +kernel)
theorem kX5_act : ab_ck1 mX5_act 4048 = true := by decide +kernel
theorem kX5_act_0 : ab_ckr mX5_act 0 = true := by decide +kernel
theorem oX5_act : ab_ok ab_Nl ab_Sl ab_M ab_G ab_Ws mX5_act := ab_ck_ok (J := 1) kX5_act (fun j h => by
  match j, h with
  | 0, _ => exact kX5_act_0) (by decide +kernel)
theorem kX5_trace : ab_ck1 mX5_trace 4074 = true := by decide +kernel
theorem kX5_trace_0 : ab_ckr mX5_trace 0 = true := by decide +kernel
theorem oX5_trace : ab_ok ab_Nl ab_Sl ab_M ab_G ab_Ws mX5_trace := ab_ck_ok (J := 1) kX5_trace (fun j h => by
  match j, h with
  | 0, _ => exact kX5_trace_0) (by decide +kernel)
theorem kX5_image : ab_ck1 mX5_image 4082 = true := by decide +kernel
theorem kX5_image_0 : ab_ckr mX5_image 0 = true := by decide +kernel
theorem oX5_image : ab_ok ab_Nl ab_Sl ab_M ab_G ab_Ws mX5_image := ab_ck_ok (J := 1) kX5_image (fun j h => by
  match j, h with
  | 0, _ => exact kX5_image_0) (by decide +kernel)
theorem kX5_restore : ab_ck1 mX5_restore 4086 = true := by decide +kernel
theorem kX5_restore_0 : ab_ckr mX5_restore 0 = true := by decide +kernel
theorem oX5_restore : ab_ok ab_Nl ab_Sl ab_M ab_G ab_Ws mX5_restore := ab_ck_ok (J := 1) kX5_restore (fun j h => by
  match j, h with
  | 0, _ => exact kX5_restore_0) (by decide +kernel)
theorem kX5_status : ab_ck1 mX5_status 4090 = true := by decide +kernel
theorem kX5_status_0 : ab_ckr mX5_status 0 = true := by decide +kernel
theorem kX5_status_1 : ab_ckr mX5_status 1 = true := by decide +kernel
theorem oX5_status : ab_ok ab_Nl ab_Sl ab_M ab_G ab_Ws mX5_status := ab_ck_ok (J := 2) kX5_status (fun j h => by
  match j, h with
  | 0, _ => exact kX5_status_0
  | 1, _ => exact kX5_status_1) (by decide +kernel)
theorem kX5_isFrom : ab_ck1 mX5_isFrom 1226 = true := by decide +kernel
theorem kX5_isFrom_0 : ab_ckr mX5_isFrom 0 = true := by decide +kernel
theorem oX5_isFrom : ab_ok ab_Nl ab_Sl ab_M ab_G ab_Ws mX5_isFrom := ab_ck_ok (J := 1) kX5_isFrom (fun j h => by
  match j, h with
  | 0, _ => exact kX5_isFrom_0) (by decide +kernel)
theorem kX5_isOneOfTwo : ab_ck1 mX5_isOneOfTwo 3082 = true := by decide +kernel
theorem kX5_isOneOfTwo_0 : ab_ckr mX5_isOneOfTwo 0 = true := by decide +kernel
theorem oX5_isOneOfTwo : ab_ok ab_Nl ab_Sl ab_M ab_G ab_Ws mX5_isOneOfTwo := ab_ck_ok (J := 1) kX5_isOneOfTwo (fun j h => by
  match j, h with
  | 0, _ => exact kX5_isOneOfTwo_0) (by decide +kernel)
theorem kX5_isShelf : ab_ck1 mX5_isShelf 1219 = true := by decide +kernel
theorem kX5_isShelf_0 : ab_ckr mX5_isShelf 0 = true := by decide +kernel
theorem oX5_isShelf : ab_ok ab_Nl ab_Sl ab_M ab_G ab_Ws mX5_isShelf := ab_ck_ok (J := 1) kX5_isShelf (fun j h => by
  match j, h with
  | 0, _ => exact kX5_isShelf_0) (by decide +kernel)
theorem kX5_refuse : ab_ck1 mX5_refuse 1223 = true := by decide +kernel
theorem kX5_refuse_0 : ab_ckr mX5_refuse 0 = true := by decide +kernel
theorem oX5_refuse : ab_ok ab_Nl ab_Sl ab_M ab_G ab_Ws mX5_refuse := ab_ck_ok (J := 1) kX5_refuse (fun j h => by
  match j, h with
  | 0, _ => exact kX5_refuse_0) (by decide +kernel)
theorem kX5_whyNoRow : ab_ck1 mX5_whyNoRow 2001 = true := by decide +kernel
theorem kX5_whyNoRow_0 : ab_ckr mX5_whyNoRow 0 = true := by decide +kernel
theorem oX5_whyNoRow : ab_ok ab_Nl ab_Sl ab_M ab_G ab_Ws mX5_whyNoRow := ab_ck_ok (J := 1) kX5_whyNoRow (fun j h => by
  match j, h with
  | 0, _ => exact kX5_whyNoRow_0) (by decide +kernel)
theorem kX5_whyNoTwos : ab_ck1 mX5_whyNoTwos 3183 = true := by decide +kernel
theorem kX5_whyNoTwos_0 : ab_ckr mX5_whyNoTwos 0 = true := by decide +kernel
theorem oX5_whyNoTwos : ab_ok ab_Nl ab_Sl ab_M ab_G ab_Ws mX5_whyNoTwos := ab_ck_ok (J := 1) kX5_whyNoTwos (fun j h => by
  match j, h with
  | 0, _ => exact kX5_whyNoTwos_0) (by decide +kernel)
theorem kX5_tellOne : ab_ck1 mX5_tellOne 2141 = true := by decide +kernel
theorem kX5_tellOne_0 : ab_ckr mX5_tellOne 0 = true := by decide +kernel
theorem oX5_tellOne : ab_ok ab_Nl ab_Sl ab_M ab_G ab_Ws mX5_tellOne := ab_ck_ok (J := 1) kX5_tellOne (fun j h => by
  match j, h with
  | 0, _ => exact kX5_tellOne_0) (by decide +kernel)
theorem kX5_throwBy : ab_ck1 mX5_throwBy 3135 = true := by decide +kernel
theorem kX5_throwBy_0 : ab_ckr mX5_throwBy 0 = true := by decide +kernel
theorem oX5_throwBy : ab_ok ab_Nl ab_Sl ab_M ab_G ab_Ws mX5_throwBy := ab_ck_ok (J := 1) kX5_throwBy (fun j h => by
  match j, h with
  | 0, _ => exact kX5_throwBy_0) (by decide +kernel)
theorem kX5_draftDay : ab_ck1 mX5_draftDay 3234 = true := by decide +kernel
theorem kX5_draftDay_0 : ab_ckr mX5_draftDay 0 = true := by decide +kernel
theorem oX5_draftDay : ab_ok ab_Nl ab_Sl ab_M ab_G ab_Ws mX5_draftDay := ab_ck_ok (J := 1) kX5_draftDay (fun j h => by
  match j, h with
  | 0, _ => exact kX5_draftDay_0) (by decide +kernel)
theorem kX5_areAllThere : ab_ck1 mX5_areAllThere 3199 = true := by decide +kernel
theorem kX5_areAllThere_0 : ab_ckr mX5_areAllThere 0 = true := by decide +kernel
theorem oX5_areAllThere : ab_ok ab_Nl ab_Sl ab_M ab_G ab_Ws mX5_areAllThere := ab_ck_ok (J := 1) kX5_areAllThere (fun j h => by
  match j, h with
  | 0, _ => exact kX5_areAllThere_0) (by decide +kernel)
theorem kX5_isCost : ab_ck1 mX5_isCost 3203 = true := by decide +kernel
theorem kX5_isCost_0 : ab_ckr mX5_isCost 0 = true := by decide +kernel
theorem oX5_isCost : ab_ok ab_Nl ab_Sl ab_M ab_G ab_Ws mX5_isCost := ab_ck_ok (J := 1) kX5_isCost (fun j h => by
  match j, h with
  | 0, _ => exact kX5_isCost_0) (by decide +kernel)
theorem kX5_dearest : ab_ck1 mX5_dearest 3212 = true := by decide +kernel
theorem kX5_dearest_0 : ab_ckr mX5_dearest 0 = true := by decide +kernel
theorem oX5_dearest : ab_ok ab_Nl ab_Sl ab_M ab_G ab_Ws mX5_dearest := ab_ck_ok (J := 1) kX5_dearest (fun j h => by
  match j, h with
  | 0, _ => exact kX5_dearest_0) (by decide +kernel)
theorem kX5_crowd : ab_ck1 mX5_crowd 3217 = true := by decide +kernel
theorem kX5_crowd_0 : ab_ckr mX5_crowd 0 = true := by decide +kernel
theorem oX5_crowd : ab_ok ab_Nl ab_Sl ab_M ab_G ab_Ws mX5_crowd := ab_ck_ok (J := 1) kX5_crowd (fun j h => by
  match j, h with
  | 0, _ => exact kX5_crowd_0) (by decide +kernel)
theorem kX6_init : ab_ck1 mX6_init 4095 = true := by decide +kernel
theorem kX6_init_0 : ab_ckr mX6_init 0 = true := by decide +kernel
theorem kX6_init_1 : ab_ckr mX6_init 1 = true := by decide +kernel
theorem kX6_init_2 : ab_ckr mX6_init 2 = true := by decide +kernel
theorem kX6_init_3 : ab_ckr mX6_init 3 = true := by decide +kernel
theorem kX6_init_4 : ab_ckr mX6_init 4 = true := by decide +kernel
theorem oX6_init : ab_ok ab_Nl ab_Sl ab_M ab_G ab_Ws mX6_init := ab_ck_ok (J := 5) kX6_init (fun j h => by
  match j, h with
  | 0, _ => exact kX6_init_0
  | 1, _ => exact kX6_init_1
  | 2, _ => exact kX6_init_2
  | 3, _ => exact kX6_init_3
  | 4, _ => exact kX6_init_4) (by decide +kernel)
theorem kX6_no : ab_ck1 mX6_no 5016 = true := by decide +kernel
theorem kX6_no_0 : ab_ckr mX6_no 0 = true := by decide +kernel
theorem oX6_no : ab_ok ab_Nl ab_Sl ab_M ab_G ab_Ws mX6_no := ab_ck_ok (J := 1) kX6_no (fun j h => by
  match j, h with
  | 0, _ => exact kX6_no_0) (by decide +kernel)
theorem kX6_noTen : ab_ck1 mX6_noTen 5156 = true := by decide +kernel
theorem kX6_noTen_0 : ab_ckr mX6_noTen 0 = true := by decide +kernel
theorem oX6_noTen : ab_ok ab_Nl ab_Sl ab_M ab_G ab_Ws mX6_noTen := ab_ck_ok (J := 1) kX6_noTen (fun j h => by
  match j, h with
  | 0, _ => exact kX6_noTen_0) (by decide +kernel)
theorem kX6_isShelf : ab_ck1 mX6_isShelf 5012 = true := by decide +kernel
theorem kX6_isShelf_0 : ab_ckr mX6_isShelf 0 = true := by decide +kernel
theorem oX6_isShelf : ab_ok ab_Nl ab_Sl ab_M ab_G ab_Ws mX6_isShelf := ab_ck_ok (J := 1) kX6_isShelf (fun j h => by
  match j, h with
  | 0, _ => exact kX6_isShelf_0) (by decide +kernel)
theorem kX6_isPiece : ab_ck1 mX6_isPiece 5036 = true := by decide +kernel
theorem kX6_isPiece_0 : ab_ckr mX6_isPiece 0 = true := by decide +kernel
theorem oX6_isPiece : ab_ok ab_Nl ab_Sl ab_M ab_G ab_Ws mX6_isPiece := ab_ck_ok (J := 1) kX6_isPiece (fun j h => by
  match j, h with
  | 0, _ => exact kX6_isPiece_0) (by decide +kernel)
theorem kX6_isOne : ab_ck1 mX6_isOne 5088 = true := by decide +kernel
theorem kX6_isOne_0 : ab_ckr mX6_isOne 0 = true := by decide +kernel
theorem oX6_isOne : ab_ok ab_Nl ab_Sl ab_M ab_G ab_Ws mX6_isOne := ab_ck_ok (J := 1) kX6_isOne (fun j h => by
  match j, h with
  | 0, _ => exact kX6_isOne_0) (by decide +kernel)
theorem kX6_isFrom : ab_ck1 mX6_isFrom 5060 = true := by decide +kernel
theorem kX6_isFrom_0 : ab_ckr mX6_isFrom 0 = true := by decide +kernel
theorem oX6_isFrom : ab_ok ab_Nl ab_Sl ab_M ab_G ab_Ws mX6_isFrom := ab_ck_ok (J := 1) kX6_isFrom (fun j h => by
  match j, h with
  | 0, _ => exact kX6_isFrom_0) (by decide +kernel)
theorem kX6_row : ab_ck1 mX6_row 5008 = true := by decide +kernel
theorem kX6_row_0 : ab_ckr mX6_row 0 = true := by decide +kernel
theorem oX6_row : ab_ok ab_Nl ab_Sl ab_M ab_G ab_Ws mX6_row := ab_ck_ok (J := 1) kX6_row (fun j h => by
  match j, h with
  | 0, _ => exact kX6_row_0) (by decide +kernel)
theorem kX6_set : ab_ck1 mX6_set 5020 = true := by decide +kernel
theorem kX6_set_0 : ab_ckr mX6_set 0 = true := by decide +kernel
theorem kX6_set_1 : ab_ckr mX6_set 1 = true := by decide +kernel
theorem oX6_set : ab_ok ab_Nl ab_Sl ab_M ab_G ab_Ws mX6_set := ab_ck_ok (J := 2) kX6_set (fun j h => by
  match j, h with
  | 0, _ => exact kX6_set_0
  | 1, _ => exact kX6_set_1) (by decide +kernel)
theorem kX6_copy : ab_ck1 mX6_copy 5024 = true := by decide +kernel
theorem kX6_copy_0 : ab_ckr mX6_copy 0 = true := by decide +kernel
theorem kX6_copy_1 : ab_ckr mX6_copy 1 = true := by decide +kernel
theorem oX6_copy : ab_ok ab_Nl ab_Sl ab_M ab_G ab_Ws mX6_copy := ab_ck_ok (J := 2) kX6_copy (fun j h => by
  match j, h with
  | 0, _ => exact kX6_copy_0
  | 1, _ => exact kX6_copy_1) (by decide +kernel)
theorem kX6_element : ab_ck1 mX6_element 5028 = true := by decide +kernel
theorem kX6_element_0 : ab_ckr mX6_element 0 = true := by decide +kernel
theorem oX6_element : ab_ok ab_Nl ab_Sl ab_M ab_G ab_Ws mX6_element := ab_ck_ok (J := 1) kX6_element (fun j h => by
  match j, h with
  | 0, _ => exact kX6_element_0) (by decide +kernel)
theorem kX6_show : ab_ck1 mX6_show 5032 = true := by decide +kernel
theorem kX6_show_0 : ab_ckr mX6_show 0 = true := by decide +kernel
theorem oX6_show : ab_ok ab_Nl ab_Sl ab_M ab_G ab_Ws mX6_show := ab_ck_ok (J := 1) kX6_show (fun j h => by
  match j, h with
  | 0, _ => exact kX6_show_0) (by decide +kernel)
theorem kX6_holds : ab_ck1 mX6_holds 5040 = true := by decide +kernel
theorem kX6_holds_0 : ab_ckr mX6_holds 0 = true := by decide +kernel
theorem oX6_holds : ab_ok ab_Nl ab_Sl ab_M ab_G ab_Ws mX6_holds := ab_ck_ok (J := 1) kX6_holds (fun j h => by
  match j, h with
  | 0, _ => exact kX6_holds_0) (by decide +kernel)
theorem kX6_says : ab_ck1 mX6_says 5044 = true := by decide +kernel
theorem kX6_says_0 : ab_ckr mX6_says 0 = true := by decide +kernel
theorem kX6_says_1 : ab_ckr mX6_says 1 = true := by decide +kernel
theorem oX6_says : ab_ok ab_Nl ab_Sl ab_M ab_G ab_Ws mX6_says := ab_ck_ok (J := 2) kX6_says (fun j h => by
  match j, h with
  | 0, _ => exact kX6_says_0
  | 1, _ => exact kX6_says_1) (by decide +kernel)
theorem kX6_wanted : ab_ck1 mX6_wanted 5108 = true := by decide +kernel
theorem kX6_wanted_0 : ab_ckr mX6_wanted 0 = true := by decide +kernel
theorem oX6_wanted : ab_ok ab_Nl ab_Sl ab_M ab_G ab_Ws mX6_wanted := ab_ck_ok (J := 1) kX6_wanted (fun j h => by
  match j, h with
  | 0, _ => exact kX6_wanted_0) (by decide +kernel)
theorem kX6_intAt : ab_ck1 mX6_intAt 6000 = true := by decide +kernel
theorem kX6_intAt_0 : ab_ckr mX6_intAt 0 = true := by decide +kernel
theorem oX6_intAt : ab_ok ab_Nl ab_Sl ab_M ab_G ab_Ws mX6_intAt := ab_ck_ok (J := 1) kX6_intAt (fun j h => by
  match j, h with
  | 0, _ => exact kX6_intAt_0) (by decide +kernel)
theorem kX6_worth : ab_ck1 mX6_worth 5052 = true := by decide +kernel
theorem kX6_worth_0 : ab_ckr mX6_worth 0 = true := by decide +kernel
theorem oX6_worth : ab_ok ab_Nl ab_Sl ab_M ab_G ab_Ws mX6_worth := ab_ck_ok (J := 1) kX6_worth (fun j h => by
  match j, h with
  | 0, _ => exact kX6_worth_0) (by decide +kernel)
theorem kX6_harms : ab_ck1 mX6_harms 5048 = true := by decide +kernel
theorem kX6_harms_0 : ab_ckr mX6_harms 0 = true := by decide +kernel
theorem oX6_harms : ab_ok ab_Nl ab_Sl ab_M ab_G ab_Ws mX6_harms := ab_ck_ok (J := 1) kX6_harms (fun j h => by
  match j, h with
  | 0, _ => exact kX6_harms_0) (by decide +kernel)
theorem kX6_addsPiece : ab_ck1 mX6_addsPiece 5064 = true := by decide +kernel
theorem kX6_addsPiece_0 : ab_ckr mX6_addsPiece 0 = true := by decide +kernel
theorem oX6_addsPiece : ab_ok ab_Nl ab_Sl ab_M ab_G ab_Ws mX6_addsPiece := ab_ck_ok (J := 1) kX6_addsPiece (fun j h => by
  match j, h with
  | 0, _ => exact kX6_addsPiece_0) (by decide +kernel)
theorem kX6_addsPerson : ab_ck1 mX6_addsPerson 5072 = true := by decide +kernel
theorem kX6_addsPerson_0 : ab_ckr mX6_addsPerson 0 = true := by decide +kernel
theorem oX6_addsPerson : ab_ok ab_Nl ab_Sl ab_M ab_G ab_Ws mX6_addsPerson := ab_ck_ok (J := 1) kX6_addsPerson (fun j h => by
  match j, h with
  | 0, _ => exact kX6_addsPerson_0) (by decide +kernel)
theorem kX6_piece : ab_ck1 mX6_piece 5056 = true := by decide +kernel
theorem kX6_piece_0 : ab_ckr mX6_piece 0 = true := by decide +kernel
theorem oX6_piece : ab_ok ab_Nl ab_Sl ab_M ab_G ab_Ws mX6_piece := ab_ck_ok (J := 1) kX6_piece (fun j h => by
  match j, h with
  | 0, _ => exact kX6_piece_0) (by decide +kernel)
theorem kX6_person : ab_ck1 mX6_person 5068 = true := by decide +kernel
theorem kX6_person_0 : ab_ckr mX6_person 0 = true := by decide +kernel
theorem oX6_person : ab_ok ab_Nl ab_Sl ab_M ab_G ab_Ws mX6_person := ab_ck_ok (J := 1) kX6_person (fun j h => by
  match j, h with
  | 0, _ => exact kX6_person_0) (by decide +kernel)
theorem kX6_cost : ab_ck1 mX6_cost 5076 = true := by decide +kernel
theorem kX6_cost_0 : ab_ckr mX6_cost 0 = true := by decide +kernel
theorem oX6_cost : ab_ok ab_Nl ab_Sl ab_M ab_G ab_Ws mX6_cost := ab_ck_ok (J := 1) kX6_cost (fun j h => by
  match j, h with
  | 0, _ => exact kX6_cost_0) (by decide +kernel)
theorem kX6_rule : ab_ck1 mX6_rule 5080 = true := by decide +kernel
theorem kX6_rule_0 : ab_ckr mX6_rule 0 = true := by decide +kernel
theorem oX6_rule : ab_ok ab_Nl ab_Sl ab_M ab_G ab_Ws mX6_rule := ab_ck_ok (J := 1) kX6_rule (fun j h => by
  match j, h with
  | 0, _ => exact kX6_rule_0) (by decide +kernel)
theorem kX6_tell : ab_ck1 mX6_tell 5084 = true := by decide +kernel
theorem kX6_tell_0 : ab_ckr mX6_tell 0 = true := by decide +kernel
theorem kX6_tell_1 : ab_ckr mX6_tell 1 = true := by decide +kernel
theorem oX6_tell : ab_ok ab_Nl ab_Sl ab_M ab_G ab_Ws mX6_tell := ab_ck_ok (J := 2) kX6_tell (fun j h => by
  match j, h with
  | 0, _ => exact kX6_tell_0
  | 1, _ => exact kX6_tell_1) (by decide +kernel)
theorem kX6_piecesOf : ab_ck1 mX6_piecesOf 5100 = true := by decide +kernel
theorem kX6_piecesOf_0 : ab_ckr mX6_piecesOf 0 = true := by decide +kernel
theorem oX6_piecesOf : ab_ok ab_Nl ab_Sl ab_M ab_G ab_Ws mX6_piecesOf := ab_ck_ok (J := 1) kX6_piecesOf (fun j h => by
  match j, h with
  | 0, _ => exact kX6_piecesOf_0) (by decide +kernel)
theorem kX6_pieceOf : ab_ck1 mX6_pieceOf 5092 = true := by decide +kernel
theorem kX6_pieceOf_0 : ab_ckr mX6_pieceOf 0 = true := by decide +kernel
theorem oX6_pieceOf : ab_ok ab_Nl ab_Sl ab_M ab_G ab_Ws mX6_pieceOf := ab_ck_ok (J := 1) kX6_pieceOf (fun j h => by
  match j, h with
  | 0, _ => exact kX6_pieceOf_0) (by decide +kernel)
theorem kX6_personOf : ab_ck1 mX6_personOf 5096 = true := by decide +kernel
theorem kX6_personOf_0 : ab_ckr mX6_personOf 0 = true := by decide +kernel
theorem oX6_personOf : ab_ok ab_Nl ab_Sl ab_M ab_G ab_Ws mX6_personOf := ab_ck_ok (J := 1) kX6_personOf (fun j h => by
  match j, h with
  | 0, _ => exact kX6_personOf_0) (by decide +kernel)
theorem kX6_wrong : ab_ck1 mX6_wrong 5128 = true := by decide +kernel
theorem kX6_wrong_0 : ab_ckr mX6_wrong 0 = true := by decide +kernel
theorem oX6_wrong : ab_ok ab_Nl ab_Sl ab_M ab_G ab_Ws mX6_wrong := ab_ck_ok (J := 1) kX6_wrong (fun j h => by
  match j, h with
  | 0, _ => exact kX6_wrong_0) (by decide +kernel)
theorem kX6_stands : ab_ck1 mX6_stands 5124 = true := by decide +kernel
theorem kX6_stands_0 : ab_ckr mX6_stands 0 = true := by decide +kernel
theorem oX6_stands : ab_ok ab_Nl ab_Sl ab_M ab_G ab_Ws mX6_stands := ab_ck_ok (J := 1) kX6_stands (fun j h => by
  match j, h with
  | 0, _ => exact kX6_stands_0) (by decide +kernel)
theorem kX6_word : ab_ck1 mX6_word 5132 = true := by decide +kernel
theorem kX6_word_0 : ab_ckr mX6_word 0 = true := by decide +kernel
theorem kX6_word_1 : ab_ckr mX6_word 1 = true := by decide +kernel
theorem oX6_word : ab_ok ab_Nl ab_Sl ab_M ab_G ab_Ws mX6_word := ab_ck_ok (J := 2) kX6_word (fun j h => by
  match j, h with
  | 0, _ => exact kX6_word_0
  | 1, _ => exact kX6_word_1) (by decide +kernel)
theorem kX6_isDigit : ab_ck1 mX6_isDigit 5140 = true := by decide +kernel
theorem kX6_isDigit_0 : ab_ckr mX6_isDigit 0 = true := by decide +kernel
theorem oX6_isDigit : ab_ok ab_Nl ab_Sl ab_M ab_G ab_Ws mX6_isDigit := ab_ck_ok (J := 1) kX6_isDigit (fun j h => by
  match j, h with
  | 0, _ => exact kX6_isDigit_0) (by decide +kernel)
theorem kX6_reads : ab_ck1 mX6_reads 5136 = true := by decide +kernel
theorem kX6_reads_0 : ab_ckr mX6_reads 0 = true := by decide +kernel
theorem oX6_reads : ab_ok ab_Nl ab_Sl ab_M ab_G ab_Ws mX6_reads := ab_ck_ok (J := 1) kX6_reads (fun j h => by
  match j, h with
  | 0, _ => exact kX6_reads_0) (by decide +kernel)
theorem kX6_isSo : ab_ck1 mX6_isSo 5144 = true := by decide +kernel
theorem kX6_isSo_0 : ab_ckr mX6_isSo 0 = true := by decide +kernel
theorem oX6_isSo : ab_ok ab_Nl ab_Sl ab_M ab_G ab_Ws mX6_isSo := ab_ck_ok (J := 1) kX6_isSo (fun j h => by
  match j, h with
  | 0, _ => exact kX6_isSo_0) (by decide +kernel)
theorem kX6_item : ab_ck1 mX6_item 5120 = true := by decide +kernel
theorem kX6_item_0 : ab_ckr mX6_item 0 = true := by decide +kernel
theorem kX6_item_1 : ab_ckr mX6_item 1 = true := by decide +kernel
theorem kX6_item_2 : ab_ckr mX6_item 2 = true := by decide +kernel
theorem oX6_item : ab_ok ab_Nl ab_Sl ab_M ab_G ab_Ws mX6_item := ab_ck_ok (J := 3) kX6_item (fun j h => by
  match j, h with
  | 0, _ => exact kX6_item_0
  | 1, _ => exact kX6_item_1
  | 2, _ => exact kX6_item_2) (by decide +kernel)
theorem kX6_carries : ab_ck1 mX6_carries 5116 = true := by decide +kernel
theorem kX6_carries_0 : ab_ckr mX6_carries 0 = true := by decide +kernel
theorem oX6_carries : ab_ok ab_Nl ab_Sl ab_M ab_G ab_Ws mX6_carries := ab_ck_ok (J := 1) kX6_carries (fun j h => by
  match j, h with
  | 0, _ => exact kX6_carries_0) (by decide +kernel)
theorem kX6_all : ab_ck1 mX6_all 5112 = true := by decide +kernel
theorem kX6_all_0 : ab_ckr mX6_all 0 = true := by decide +kernel
theorem kX6_all_1 : ab_ckr mX6_all 1 = true := by decide +kernel
theorem oX6_all : ab_ok ab_Nl ab_Sl ab_M ab_G ab_Ws mX6_all := ab_ck_ok (J := 2) kX6_all (fun j h => by
  match j, h with
  | 0, _ => exact kX6_all_0
  | 1, _ => exact kX6_all_1) (by decide +kernel)
theorem kX6_square : ab_ck1 mX6_square 5104 = true := by decide +kernel
theorem kX6_square_0 : ab_ckr mX6_square 0 = true := by decide +kernel
theorem kX6_square_1 : ab_ckr mX6_square 1 = true := by decide +kernel
theorem oX6_square : ab_ok ab_Nl ab_Sl ab_M ab_G ab_Ws mX6_square := ab_ck_ok (J := 2) kX6_square (fun j h => by
  match j, h with
  | 0, _ => exact kX6_square_0
  | 1, _ => exact kX6_square_1) (by decide +kernel)
theorem kX6_fault : ab_ck1 mX6_fault 5148 = true := by decide +kernel
theorem kX6_fault_0 : ab_ckr mX6_fault 0 = true := by decide +kernel
theorem oX6_fault : ab_ok ab_Nl ab_Sl ab_M ab_G ab_Ws mX6_fault := ab_ck_ok (J := 1) kX6_fault (fun j h => by
  match j, h with
  | 0, _ => exact kX6_fault_0) (by decide +kernel)
theorem kX6_many : ab_ck1 mX6_many 5168 = true := by decide +kernel
theorem kX6_many_0 : ab_ckr mX6_many 0 = true := by decide +kernel
theorem oX6_many : ab_ok ab_Nl ab_Sl ab_M ab_G ab_Ws mX6_many := ab_ck_ok (J := 1) kX6_many (fun j h => by
  match j, h with
  | 0, _ => exact kX6_many_0) (by decide +kernel)
theorem kX6_worthOf : ab_ck1 mX6_worthOf 5164 = true := by decide +kernel
theorem kX6_worthOf_0 : ab_ckr mX6_worthOf 0 = true := by decide +kernel
theorem oX6_worthOf : ab_ok ab_Nl ab_Sl ab_M ab_G ab_Ws mX6_worthOf := ab_ck_ok (J := 1) kX6_worthOf (fun j h => by
  match j, h with
  | 0, _ => exact kX6_worthOf_0) (by decide +kernel)
theorem kX6_harmOf : ab_ck1 mX6_harmOf 5172 = true := by decide +kernel
theorem kX6_harmOf_0 : ab_ckr mX6_harmOf 0 = true := by decide +kernel
theorem oX6_harmOf : ab_ok ab_Nl ab_Sl ab_M ab_G ab_Ws mX6_harmOf := ab_ck_ok (J := 1) kX6_harmOf (fun j h => by
  match j, h with
  | 0, _ => exact kX6_harmOf_0) (by decide +kernel)
theorem kX6_tellsBest : ab_ck1 mX6_tellsBest 5160 = true := by decide +kernel
theorem kX6_tellsBest_0 : ab_ckr mX6_tellsBest 0 = true := by decide +kernel
theorem oX6_tellsBest : ab_ok ab_Nl ab_Sl ab_M ab_G ab_Ws mX6_tellsBest := ab_ck_ok (J := 1) kX6_tellsBest (fun j h => by
  match j, h with
  | 0, _ => exact kX6_tellsBest_0) (by decide +kernel)
theorem kX6_greedyFor : ab_ck1 mX6_greedyFor 5176 = true := by decide +kernel
theorem kX6_greedyFor_0 : ab_ckr mX6_greedyFor 0 = true := by decide +kernel
theorem oX6_greedyFor : ab_ok ab_Nl ab_Sl ab_M ab_G ab_Ws mX6_greedyFor := ab_ck_ok (J := 1) kX6_greedyFor (fun j h => by
  match j, h with
  | 0, _ => exact kX6_greedyFor_0) (by decide +kernel)
theorem kX6_changeFor : ab_ck1 mX6_changeFor 5196 = true := by decide +kernel
theorem kX6_changeFor_0 : ab_ckr mX6_changeFor 0 = true := by decide +kernel
theorem oX6_changeFor : ab_ok ab_Nl ab_Sl ab_M ab_G ab_Ws mX6_changeFor := ab_ck_ok (J := 1) kX6_changeFor (fun j h => by
  match j, h with
  | 0, _ => exact kX6_changeFor_0) (by decide +kernel)
theorem kX6_change : ab_ck1 mX6_change 5152 = true := by decide +kernel
theorem kX6_change_0 : ab_ckr mX6_change 0 = true := by decide +kernel
theorem oX6_change : ab_ok ab_Nl ab_Sl ab_M ab_G ab_Ws mX6_change := ab_ck_ok (J := 1) kX6_change (fun j h => by
  match j, h with
  | 0, _ => exact kX6_change_0) (by decide +kernel)
theorem kX6_priceFor : ab_ck1 mX6_priceFor 5184 = true := by decide +kernel
theorem kX6_priceFor_0 : ab_ckr mX6_priceFor 0 = true := by decide +kernel
theorem oX6_priceFor : ab_ok ab_Nl ab_Sl ab_M ab_G ab_Ws mX6_priceFor := ab_ck_ok (J := 1) kX6_priceFor (fun j h => by
  match j, h with
  | 0, _ => exact kX6_priceFor_0) (by decide +kernel)
theorem kX6_price : ab_ck1 mX6_price 5180 = true := by decide +kernel
theorem kX6_price_0 : ab_ckr mX6_price 0 = true := by decide +kernel
theorem oX6_price : ab_ok ab_Nl ab_Sl ab_M ab_G ab_Ws mX6_price := ab_ck_ok (J := 1) kX6_price (fun j h => by
  match j, h with
  | 0, _ => exact kX6_price_0) (by decide +kernel)
theorem kX6_thrown : ab_ck1 mX6_thrown 5192 = true := by decide +kernel
theorem kX6_thrown_0 : ab_ckr mX6_thrown 0 = true := by decide +kernel
theorem oX6_thrown : ab_ok ab_Nl ab_Sl ab_M ab_G ab_Ws mX6_thrown := ab_ck_ok (J := 1) kX6_thrown (fun j h => by
  match j, h with
  | 0, _ => exact kX6_thrown_0) (by decide +kernel)
theorem kX6_tellsThrow : ab_ck1 mX6_tellsThrow 5204 = true := by decide +kernel
theorem kX6_tellsThrow_0 : ab_ckr mX6_tellsThrow 0 = true := by decide +kernel
theorem oX6_tellsThrow : ab_ok ab_Nl ab_Sl ab_M ab_G ab_Ws mX6_tellsThrow := ab_ck_ok (J := 1) kX6_tellsThrow (fun j h => by
  match j, h with
  | 0, _ => exact kX6_tellsThrow_0) (by decide +kernel)
theorem kX6_harm : ab_ck1 mX6_harm 5188 = true := by decide +kernel
theorem kX6_harm_0 : ab_ckr mX6_harm 0 = true := by decide +kernel
theorem oX6_harm : ab_ok ab_Nl ab_Sl ab_M ab_G ab_Ws mX6_harm := ab_ck_ok (J := 1) kX6_harm (fun j h => by
  match j, h with
  | 0, _ => exact kX6_harm_0) (by decide +kernel)
theorem kX6_best : ab_ck1 mX6_best 5200 = true := by decide +kernel
theorem kX6_best_0 : ab_ckr mX6_best 0 = true := by decide +kernel
theorem oX6_best : ab_ok ab_Nl ab_Sl ab_M ab_G ab_Ws mX6_best := ab_ck_ok (J := 1) kX6_best (fun j h => by
  match j, h with
  | 0, _ => exact kX6_best_0) (by decide +kernel)
theorem kX6_fails : ab_ck1 mX6_fails 5208 = true := by decide +kernel
theorem kX6_fails_0 : ab_ckr mX6_fails 0 = true := by decide +kernel
theorem oX6_fails : ab_ok ab_Nl ab_Sl ab_M ab_G ab_Ws mX6_fails := ab_ck_ok (J := 1) kX6_fails (fun j h => by
  match j, h with
  | 0, _ => exact kX6_fails_0) (by decide +kernel)
theorem kX6_manyAmounts : ab_ck1 mX6_manyAmounts 5216 = true := by decide +kernel
theorem kX6_manyAmounts_0 : ab_ckr mX6_manyAmounts 0 = true := by decide +kernel
theorem oX6_manyAmounts : ab_ok ab_Nl ab_Sl ab_M ab_G ab_Ws mX6_manyAmounts := ab_ck_ok (J := 1) kX6_manyAmounts (fun j h => by
  match j, h with
  | 0, _ => exact kX6_manyAmounts_0) (by decide +kernel)
theorem kX6_amounts : ab_ck1 mX6_amounts 5212 = true := by decide +kernel
theorem kX6_amounts_0 : ab_ckr mX6_amounts 0 = true := by decide +kernel
theorem oX6_amounts : ab_ok ab_Nl ab_Sl ab_M ab_G ab_Ws mX6_amounts := ab_ck_ok (J := 1) kX6_amounts (fun j h => by
  match j, h with
  | 0, _ => exact kX6_amounts_0) (by decide +kernel)
theorem kX6_throwsIn : ab_ck1 mX6_throwsIn 5228 = true := by decide +kernel
theorem kX6_throwsIn_0 : ab_ckr mX6_throwsIn 0 = true := by decide +kernel
theorem oX6_throwsIn : ab_ok ab_Nl ab_Sl ab_M ab_G ab_Ws mX6_throwsIn := ab_ck_ok (J := 1) kX6_throwsIn (fun j h => by
  match j, h with
  | 0, _ => exact kX6_throwsIn_0) (by decide +kernel)
theorem kX6_runs : ab_ck1 mX6_runs 5224 = true := by decide +kernel
theorem kX6_runs_0 : ab_ckr mX6_runs 0 = true := by decide +kernel
theorem kX6_runs_1 : ab_ckr mX6_runs 1 = true := by decide +kernel
theorem oX6_runs : ab_ok ab_Nl ab_Sl ab_M ab_G ab_Ws mX6_runs := ab_ck_ok (J := 2) kX6_runs (fun j h => by
  match j, h with
  | 0, _ => exact kX6_runs_0
  | 1, _ => exact kX6_runs_1) (by decide +kernel)
theorem kX6_run : ab_ck1 mX6_run 5220 = true := by decide +kernel
theorem kX6_run_0 : ab_ckr mX6_run 0 = true := by decide +kernel
theorem oX6_run : ab_ok ab_Nl ab_Sl ab_M ab_G ab_Ws mX6_run := ab_ck_ok (J := 1) kX6_run (fun j h => by
  match j, h with
  | 0, _ => exact kX6_run_0) (by decide +kernel)
theorem kX6_barsOf : ab_ck1 mX6_barsOf 5236 = true := by decide +kernel
theorem kX6_barsOf_0 : ab_ckr mX6_barsOf 0 = true := by decide +kernel
theorem oX6_barsOf : ab_ok ab_Nl ab_Sl ab_M ab_G ab_Ws mX6_barsOf := ab_ck_ok (J := 1) kX6_barsOf (fun j h => by
  match j, h with
  | 0, _ => exact kX6_barsOf_0) (by decide +kernel)
theorem kX6_rules : ab_ck1 mX6_rules 5232 = true := by decide +kernel
theorem kX6_rules_0 : ab_ckr mX6_rules 0 = true := by decide +kernel
theorem kX6_rules_1 : ab_ckr mX6_rules 1 = true := by decide +kernel
theorem oX6_rules : ab_ok ab_Nl ab_Sl ab_M ab_G ab_Ws mX6_rules := ab_ck_ok (J := 2) kX6_rules (fun j h => by
  match j, h with
  | 0, _ => exact kX6_rules_0
  | 1, _ => exact kX6_rules_1) (by decide +kernel)
theorem kX6_costs : ab_ck1 mX6_costs 6004 = true := by decide +kernel
theorem kX6_costs_0 : ab_ckr mX6_costs 0 = true := by decide +kernel
theorem kX6_costs_1 : ab_ckr mX6_costs 1 = true := by decide +kernel
theorem oX6_costs : ab_ok ab_Nl ab_Sl ab_M ab_G ab_Ws mX6_costs := ab_ck_ok (J := 2) kX6_costs (fun j h => by
  match j, h with
  | 0, _ => exact kX6_costs_0
  | 1, _ => exact kX6_costs_1) (by decide +kernel)
theorem kX6_dearest : ab_ck1 mX6_dearest 6012 = true := by decide +kernel
theorem kX6_dearest_0 : ab_ckr mX6_dearest 0 = true := by decide +kernel
theorem oX6_dearest : ab_ok ab_Nl ab_Sl ab_M ab_G ab_Ws mX6_dearest := ab_ck_ok (J := 1) kX6_dearest (fun j h => by
  match j, h with
  | 0, _ => exact kX6_dearest_0) (by decide +kernel)
theorem kX6_wanting : ab_ck1 mX6_wanting 6016 = true := by decide +kernel
theorem kX6_wanting_0 : ab_ckr mX6_wanting 0 = true := by decide +kernel
theorem oX6_wanting : ab_ok ab_Nl ab_Sl ab_M ab_G ab_Ws mX6_wanting := ab_ck_ok (J := 1) kX6_wanting (fun j h => by
  match j, h with
  | 0, _ => exact kX6_wanting_0) (by decide +kernel)
theorem kX6_dear : ab_ck1 mX6_dear 6008 = true := by decide +kernel
theorem kX6_dear_0 : ab_ckr mX6_dear 0 = true := by decide +kernel
theorem oX6_dear : ab_ok ab_Nl ab_Sl ab_M ab_G ab_Ws mX6_dear := ab_ck_ok (J := 1) kX6_dear (fun j h => by
  match j, h with
  | 0, _ => exact kX6_dear_0) (by decide +kernel)
theorem kX6_rich : ab_ck1 mX6_rich 6020 = true := by decide +kernel
theorem kX6_rich_0 : ab_ckr mX6_rich 0 = true := by decide +kernel
theorem oX6_rich : ab_ok ab_Nl ab_Sl ab_M ab_G ab_Ws mX6_rich := ab_ck_ok (J := 1) kX6_rich (fun j h => by
  match j, h with
  | 0, _ => exact kX6_rich_0) (by decide +kernel)
theorem kX6_goes : ab_ck1 mX6_goes 6028 = true := by decide +kernel
theorem kX6_goes_0 : ab_ckr mX6_goes 0 = true := by decide +kernel
theorem kX6_goes_1 : ab_ckr mX6_goes 1 = true := by decide +kernel
theorem oX6_goes : ab_ok ab_Nl ab_Sl ab_M ab_G ab_Ws mX6_goes := ab_ck_ok (J := 2) kX6_goes (fun j h => by
  match j, h with
  | 0, _ => exact kX6_goes_0
  | 1, _ => exact kX6_goes_1) (by decide +kernel)
theorem kX6_judge : ab_ck1 mX6_judge 6024 = true := by decide +kernel
theorem kX6_judge_0 : ab_ckr mX6_judge 0 = true := by decide +kernel
theorem oX6_judge : ab_ok ab_Nl ab_Sl ab_M ab_G ab_Ws mX6_judge := ab_ck_ok (J := 1) kX6_judge (fun j h => by
  match j, h with
  | 0, _ => exact kX6_judge_0) (by decide +kernel)
theorem kX6_behind : ab_ck1 mX6_behind 6032 = true := by decide +kernel
theorem kX6_behind_0 : ab_ckr mX6_behind 0 = true := by decide +kernel
theorem oX6_behind : ab_ok ab_Nl ab_Sl ab_M ab_G ab_Ws mX6_behind := ab_ck_ok (J := 1) kX6_behind (fun j h => by
  match j, h with
  | 0, _ => exact kX6_behind_0) (by decide +kernel)
theorem kX6_done : ab_ck1 mX6_done 6036 = true := by decide +kernel
theorem kX6_done_0 : ab_ckr mX6_done 0 = true := by decide +kernel
theorem oX6_done : ab_ok ab_Nl ab_Sl ab_M ab_G ab_Ws mX6_done := ab_ck_ok (J := 1) kX6_done (fun j h => by
  match j, h with
  | 0, _ => exact kX6_done_0) (by decide +kernel)
theorem kX6_cast : ab_ck1 mX6_cast 6040 = true := by decide +kernel
theorem kX6_cast_0 : ab_ckr mX6_cast 0 = true := by decide +kernel
theorem oX6_cast : ab_ok ab_Nl ab_Sl ab_M ab_G ab_Ws mX6_cast := ab_ck_ok (J := 1) kX6_cast (fun j h => by
  match j, h with
  | 0, _ => exact kX6_cast_0) (by decide +kernel)
theorem kX6_back : ab_ck1 mX6_back 6044 = true := by decide +kernel
theorem kX6_back_0 : ab_ckr mX6_back 0 = true := by decide +kernel
theorem oX6_back : ab_ok ab_Nl ab_Sl ab_M ab_G ab_Ws mX6_back := ab_ck_ok (J := 1) kX6_back (fun j h => by
  match j, h with
  | 0, _ => exact kX6_back_0) (by decide +kernel)
theorem kX6_draw : ab_ck1 mX6_draw 6056 = true := by decide +kernel
theorem kX6_draw_0 : ab_ckr mX6_draw 0 = true := by decide +kernel
theorem oX6_draw : ab_ok ab_Nl ab_Sl ab_M ab_G ab_Ws mX6_draw := ab_ck_ok (J := 1) kX6_draw (fun j h => by
  match j, h with
  | 0, _ => exact kX6_draw_0) (by decide +kernel)
theorem kX6_day : ab_ck1 mX6_day 6052 = true := by decide +kernel
theorem kX6_day_0 : ab_ckr mX6_day 0 = true := by decide +kernel
theorem kX6_day_1 : ab_ckr mX6_day 1 = true := by decide +kernel
theorem oX6_day : ab_ok ab_Nl ab_Sl ab_M ab_G ab_Ws mX6_day := ab_ck_ok (J := 2) kX6_day (fun j h => by
  match j, h with
  | 0, _ => exact kX6_day_0
  | 1, _ => exact kX6_day_1) (by decide +kernel)
theorem kX6_allGranted : ab_ck1 mX6_allGranted 6061 = true := by decide +kernel
theorem kX6_allGranted_0 : ab_ckr mX6_allGranted 0 = true := by decide +kernel
theorem oX6_allGranted : ab_ok ab_Nl ab_Sl ab_M ab_G ab_Ws mX6_allGranted := ab_ck_ok (J := 1) kX6_allGranted (fun j h => by
  match j, h with
  | 0, _ => exact kX6_allGranted_0) (by decide +kernel)
theorem kX6_days : ab_ck1 mX6_days 6048 = true := by decide +kernel
theorem kX6_days_0 : ab_ckr mX6_days 0 = true := by decide +kernel
theorem oX6_days : ab_ok ab_Nl ab_Sl ab_M ab_G ab_Ws mX6_days := ab_ck_ok (J := 1) kX6_days (fun j h => by
  match j, h with
  | 0, _ => exact kX6_days_0) (by decide +kernel)
theorem kX6_seed : ab_ck1 mX6_seed 6065 = true := by decide +kernel
theorem kX6_seed_0 : ab_ckr mX6_seed 0 = true := by decide +kernel
theorem oX6_seed : ab_ok ab_Nl ab_Sl ab_M ab_G ab_Ws mX6_seed := ab_ck_ok (J := 1) kX6_seed (fun j h => by
  match j, h with
  | 0, _ => exact kX6_seed_0) (by decide +kernel)
theorem kX6_body : ab_ck1 mX6_body 6077 = true := by decide +kernel
theorem kX6_body_0 : ab_ckr mX6_body 0 = true := by decide +kernel
theorem oX6_body : ab_ok ab_Nl ab_Sl ab_M ab_G ab_Ws mX6_body := ab_ck_ok (J := 1) kX6_body (fun j h => by
  match j, h with
  | 0, _ => exact kX6_body_0) (by decide +kernel)
theorem kX6_falling : ab_ck1 mX6_falling 6073 = true := by decide +kernel
theorem kX6_falling_0 : ab_ckr mX6_falling 0 = true := by decide +kernel
theorem kX6_falling_1 : ab_ckr mX6_falling 1 = true := by decide +kernel
theorem oX6_falling : ab_ok ab_Nl ab_Sl ab_M ab_G ab_Ws mX6_falling := ab_ck_ok (J := 2) kX6_falling (fun j h => by
  match j, h with
  | 0, _ => exact kX6_falling_0
  | 1, _ => exact kX6_falling_1) (by decide +kernel)
theorem kX6_ringing : ab_ck1 mX6_ringing 6081 = true := by decide +kernel
theorem kX6_ringing_0 : ab_ckr mX6_ringing 0 = true := by decide +kernel
theorem oX6_ringing : ab_ok ab_Nl ab_Sl ab_M ab_G ab_Ws mX6_ringing := ab_ck_ok (J := 1) kX6_ringing (fun j h => by
  match j, h with
  | 0, _ => exact kX6_ringing_0) (by decide +kernel)
theorem kX6_sinking : ab_ck1 mX6_sinking 6085 = true := by decide +kernel
theorem kX6_sinking_0 : ab_ckr mX6_sinking 0 = true := by decide +kernel
theorem oX6_sinking : ab_ok ab_Nl ab_Sl ab_M ab_G ab_Ws mX6_sinking := ab_ck_ok (J := 1) kX6_sinking (fun j h => by
  match j, h with
  | 0, _ => exact kX6_sinking_0) (by decide +kernel)
theorem kX6_act : ab_ck1 mX6_act 6069 = true := by decide +kernel
theorem kX6_act_0 : ab_ckr mX6_act 0 = true := by decide +kernel
theorem oX6_act : ab_ok ab_Nl ab_Sl ab_M ab_G ab_Ws mX6_act := ab_ck_ok (J := 1) kX6_act (fun j h => by
  match j, h with
  | 0, _ => exact kX6_act_0) (by decide +kernel)
theorem kX6_trace : ab_ck1 mX6_trace 6089 = true := by decide +kernel
theorem kX6_trace_0 : ab_ckr mX6_trace 0 = true := by decide +kernel
theorem oX6_trace : ab_ok ab_Nl ab_Sl ab_M ab_G ab_Ws mX6_trace := ab_ck_ok (J := 1) kX6_trace (fun j h => by
  match j, h with
  | 0, _ => exact kX6_trace_0) (by decide +kernel)
theorem kX6_image : ab_ck1 mX6_image 6093 = true := by decide +kernel
theorem kX6_image_0 : ab_ckr mX6_image 0 = true := by decide +kernel
theorem oX6_image : ab_ok ab_Nl ab_Sl ab_M ab_G ab_Ws mX6_image := ab_ck_ok (J := 1) kX6_image (fun j h => by
  match j, h with
  | 0, _ => exact kX6_image_0) (by decide +kernel)
theorem kX6_restore : ab_ck1 mX6_restore 6097 = true := by decide +kernel
theorem kX6_restore_0 : ab_ckr mX6_restore 0 = true := by decide +kernel
theorem oX6_restore : ab_ok ab_Nl ab_Sl ab_M ab_G ab_Ws mX6_restore := ab_ck_ok (J := 1) kX6_restore (fun j h => by
  match j, h with
  | 0, _ => exact kX6_restore_0) (by decide +kernel)
theorem kX6_status : ab_ck1 mX6_status 6101 = true := by decide +kernel
theorem kX6_status_0 : ab_ckr mX6_status 0 = true := by decide +kernel
theorem kX6_status_1 : ab_ckr mX6_status 1 = true := by decide +kernel
theorem oX6_status : ab_ok ab_Nl ab_Sl ab_M ab_G ab_Ws mX6_status := ab_ck_ok (J := 2) kX6_status (fun j h => by
  match j, h with
  | 0, _ => exact kX6_status_0
  | 1, _ => exact kX6_status_1) (by decide +kernel)
theorem kJ6_bitCount_0f7a4 : ab_ck1 mJ6_bitCount_0f7a4 3160 = true := by decide +kernel
theorem kJ6_bitCount_0f7a4_0 : ab_ckr mJ6_bitCount_0f7a4 0 = true := by decide +kernel
theorem oJ6_bitCount_0f7a4 : ab_ok ab_Nl ab_Sl ab_M ab_G ab_Ws mJ6_bitCount_0f7a4 := ab_ck_ok (J := 1) kJ6_bitCount_0f7a4 (fun j h => by
  match j, h with
  | 0, _ => exact kJ6_bitCount_0f7a4_0) (by decide +kernel)
theorem kJ7_fill_d0a16 : ab_ck1 mJ7_fill_d0a16 1233 = true := by decide +kernel
theorem kJ7_fill_d0a16_0 : ab_ckr mJ7_fill_d0a16 0 = true := by decide +kernel
theorem oJ7_fill_d0a16 : ab_ok ab_Nl ab_Sl ab_M ab_G ab_Ws mJ7_fill_d0a16 := ab_ck_ok (J := 1) kJ7_fill_d0a16 (fun j h => by
  match j, h with
  | 0, _ => exact kJ7_fill_d0a16_0) (by decide +kernel)
theorem kJ7_fill_53178 : ab_ck1 mJ7_fill_53178 3114 = true := by decide +kernel
theorem kJ7_fill_53178_0 : ab_ckr mJ7_fill_53178 0 = true := by decide +kernel
theorem oJ7_fill_53178 : ab_ok ab_Nl ab_Sl ab_M ab_G ab_Ws mJ7_fill_53178 := ab_ck_ok (J := 1) kJ7_fill_53178 (fun j h => by
  match j, h with
  | 0, _ => exact kJ7_fill_53178_0) (by decide +kernel)
def ab_M0 : List ab_D := [mX0_init, mX0_bitsBy, mX0_weigh, mX0_putIn, mX0_fewestFor, mX0_amountsOf, mX1_init, mX1_bodyAt, mX1_answer, mX1_begin, mX1_bodyOf, mX1_kindWithBody, mX1_answerFrom, mX2_init, mX2_read, mX2_readItem, mX2_readPiece, mX2_readPerson, mX2_readCost, mX2_readHas]
theorem ab_o0 : ∀ my ∈ ab_M0, ab_ok ab_Nl ab_Sl ab_M ab_G ab_Ws my := List.forall_mem_cons.mpr ⟨oX0_init, List.forall_mem_cons.mpr ⟨oX0_bitsBy, List.forall_mem_cons.mpr ⟨oX0_weigh, List.forall_mem_cons.mpr ⟨oX0_putIn, List.forall_mem_cons.mpr ⟨oX0_fewestFor, List.forall_mem_cons.mpr ⟨oX0_amountsOf, List.forall_mem_cons.mpr ⟨oX1_init, List.forall_mem_cons.mpr ⟨oX1_bodyAt, List.forall_mem_cons.mpr ⟨oX1_answer, List.forall_mem_cons.mpr ⟨oX1_begin, List.forall_mem_cons.mpr ⟨oX1_bodyOf, List.forall_mem_cons.mpr ⟨oX1_kindWithBody, List.forall_mem_cons.mpr ⟨oX1_answerFrom, List.forall_mem_cons.mpr ⟨oX2_init, List.forall_mem_cons.mpr ⟨oX2_read, List.forall_mem_cons.mpr ⟨oX2_readItem, List.forall_mem_cons.mpr ⟨oX2_readPiece, List.forall_mem_cons.mpr ⟨oX2_readPerson, List.forall_mem_cons.mpr ⟨oX2_readCost, List.forall_mem_cons.mpr ⟨oX2_readHas, fun _ h => absurd h List.not_mem_nil⟩⟩⟩⟩⟩⟩⟩⟩⟩⟩⟩⟩⟩⟩⟩⟩⟩⟩⟩⟩
def ab_M1 : List ab_D := [mX2_readBack, mX2_readWord, mX2_spelt, mX2_lettersAsIn, mX2_stands, mX2_readSign, mX2_readNumber, mX2_isDigit, mX2_readDigit, mX3_init, mX3_holdRow, mX3_holdPiece, mX3_isEmpty, mX3_isOtherThanRow, mX3_isOfOtherSort, mX3_hasElement, mX3_hasStretch, mX3_put, mX3_lowestBits, mX3_copyTo]
theorem ab_o1 : ∀ my ∈ ab_M1, ab_ok ab_Nl ab_Sl ab_M ab_G ab_Ws my := List.forall_mem_cons.mpr ⟨oX2_readBack, List.forall_mem_cons.mpr ⟨oX2_readWord, List.forall_mem_cons.mpr ⟨oX2_spelt, List.forall_mem_cons.mpr ⟨oX2_lettersAsIn, List.forall_mem_cons.mpr ⟨oX2_stands, List.forall_mem_cons.mpr ⟨oX2_readSign, List.forall_mem_cons.mpr ⟨oX2_readNumber, List.forall_mem_cons.mpr ⟨oX2_isDigit, List.forall_mem_cons.mpr ⟨oX2_readDigit, List.forall_mem_cons.mpr ⟨oX3_init, List.forall_mem_cons.mpr ⟨oX3_holdRow, List.forall_mem_cons.mpr ⟨oX3_holdPiece, List.forall_mem_cons.mpr ⟨oX3_isEmpty, List.forall_mem_cons.mpr ⟨oX3_isOtherThanRow, List.forall_mem_cons.mpr ⟨oX3_isOfOtherSort, List.forall_mem_cons.mpr ⟨oX3_hasElement, List.forall_mem_cons.mpr ⟨oX3_hasStretch, List.forall_mem_cons.mpr ⟨oX3_put, List.forall_mem_cons.mpr ⟨oX3_lowestBits, List.forall_mem_cons.mpr ⟨oX3_copyTo, fun _ h => absurd h List.not_mem_nil⟩⟩⟩⟩⟩⟩⟩⟩⟩⟩⟩⟩⟩⟩⟩⟩⟩⟩⟩⟩
def ab_M2 : List ab_D := [mX3_whole, mX3_read, mX3_readAll, mX3_first, mX3_second, mX4_init, mX4_isKind, mX4_isWish, mX4_isAmount, mX4_isBit, mX4_isPiece, mX4_isPerson, mX4_hasRoomForPiece, mX4_hasRoomForPerson, mX4_isOfKind, mX4_take, mX4_addPiece, mX4_addPerson, mX4_worthOf, mX4_harmOf]
theorem ab_o2 : ∀ my ∈ ab_M2, ab_ok ab_Nl ab_Sl ab_M ab_G ab_Ws my := List.forall_mem_cons.mpr ⟨oX3_whole, List.forall_mem_cons.mpr ⟨oX3_read, List.forall_mem_cons.mpr ⟨oX3_readAll, List.forall_mem_cons.mpr ⟨oX3_first, List.forall_mem_cons.mpr ⟨oX3_second, List.forall_mem_cons.mpr ⟨oX4_init, List.forall_mem_cons.mpr ⟨oX4_isKind, List.forall_mem_cons.mpr ⟨oX4_isWish, List.forall_mem_cons.mpr ⟨oX4_isAmount, List.forall_mem_cons.mpr ⟨oX4_isBit, List.forall_mem_cons.mpr ⟨oX4_isPiece, List.forall_mem_cons.mpr ⟨oX4_isPerson, List.forall_mem_cons.mpr ⟨oX4_hasRoomForPiece, List.forall_mem_cons.mpr ⟨oX4_hasRoomForPerson, List.forall_mem_cons.mpr ⟨oX4_isOfKind, List.forall_mem_cons.mpr ⟨oX4_take, List.forall_mem_cons.mpr ⟨oX4_addPiece, List.forall_mem_cons.mpr ⟨oX4_addPerson, List.forall_mem_cons.mpr ⟨oX4_worthOf, List.forall_mem_cons.mpr ⟨oX4_harmOf, fun _ h => absurd h List.not_mem_nil⟩⟩⟩⟩⟩⟩⟩⟩⟩⟩⟩⟩⟩⟩⟩⟩⟩⟩⟩⟩
def ab_M3 : List ab_D := [mX4_worthOfBits, mX4_harmOfBits, mX4_bitsAt, mX4_basin, mX4_wanting, mX4_grantedTogether, mX4_priceFor, mX4_priceByCost, mX4_bestThrow, mX4_greedyFor, mX4_greatestUpTo, mX4_grant, mX4_draw, mX4_drawDay, mX4_throwIn, mX5_init, mX5_row, mX5_set, mX5_copy, mX5_element]
theorem ab_o3 : ∀ my ∈ ab_M3, ab_ok ab_Nl ab_Sl ab_M ab_G ab_Ws my := List.forall_mem_cons.mpr ⟨oX4_worthOfBits, List.forall_mem_cons.mpr ⟨oX4_harmOfBits, List.forall_mem_cons.mpr ⟨oX4_bitsAt, List.forall_mem_cons.mpr ⟨oX4_basin, List.forall_mem_cons.mpr ⟨oX4_wanting, List.forall_mem_cons.mpr ⟨oX4_grantedTogether, List.forall_mem_cons.mpr ⟨oX4_priceFor, List.forall_mem_cons.mpr ⟨oX4_priceByCost, List.forall_mem_cons.mpr ⟨oX4_bestThrow, List.forall_mem_cons.mpr ⟨oX4_greedyFor, List.forall_mem_cons.mpr ⟨oX4_greatestUpTo, List.forall_mem_cons.mpr ⟨oX4_grant, List.forall_mem_cons.mpr ⟨oX4_draw, List.forall_mem_cons.mpr ⟨oX4_drawDay, List.forall_mem_cons.mpr ⟨oX4_throwIn, List.forall_mem_cons.mpr ⟨oX5_init, List.forall_mem_cons.mpr ⟨oX5_row, List.forall_mem_cons.mpr ⟨oX5_set, List.forall_mem_cons.mpr ⟨oX5_copy, List.forall_mem_cons.mpr ⟨oX5_element, fun _ h => absurd h List.not_mem_nil⟩⟩⟩⟩⟩⟩⟩⟩⟩⟩⟩⟩⟩⟩⟩⟩⟩⟩⟩⟩
def ab_M4 : List ab_D := [mX5_show, mX5_holds, mX5_says, mX5_piece, mX5_person, mX5_cost, mX5_rule, mX5_tell, mX5_pieceOf, mX5_personOf, mX5_square, mX5_fault, mX5_price, mX5_change, mX5_harm, mX5_best, mX5_fails, mX5_amounts, mX5_run, mX5_rules]
theorem ab_o4 : ∀ my ∈ ab_M4, ab_ok ab_Nl ab_Sl ab_M ab_G ab_Ws my := List.forall_mem_cons.mpr ⟨oX5_show, List.forall_mem_cons.mpr ⟨oX5_holds, List.forall_mem_cons.mpr ⟨oX5_says, List.forall_mem_cons.mpr ⟨oX5_piece, List.forall_mem_cons.mpr ⟨oX5_person, List.forall_mem_cons.mpr ⟨oX5_cost, List.forall_mem_cons.mpr ⟨oX5_rule, List.forall_mem_cons.mpr ⟨oX5_tell, List.forall_mem_cons.mpr ⟨oX5_pieceOf, List.forall_mem_cons.mpr ⟨oX5_personOf, List.forall_mem_cons.mpr ⟨oX5_square, List.forall_mem_cons.mpr ⟨oX5_fault, List.forall_mem_cons.mpr ⟨oX5_price, List.forall_mem_cons.mpr ⟨oX5_change, List.forall_mem_cons.mpr ⟨oX5_harm, List.forall_mem_cons.mpr ⟨oX5_best, List.forall_mem_cons.mpr ⟨oX5_fails, List.forall_mem_cons.mpr ⟨oX5_amounts, List.forall_mem_cons.mpr ⟨oX5_run, List.forall_mem_cons.mpr ⟨oX5_rules, fun _ h => absurd h List.not_mem_nil⟩⟩⟩⟩⟩⟩⟩⟩⟩⟩⟩⟩⟩⟩⟩⟩⟩⟩⟩⟩
def ab_M5 : List ab_D := [mX5_costs, mX5_dear, mX5_rich, mX5_judge, mX5_behind, mX5_done, mX5_cast, mX5_back, mX5_days, mX5_seed, mX5_act, mX5_trace, mX5_image, mX5_restore, mX5_status, mX5_isFrom, mX5_isOneOfTwo, mX5_isShelf, mX5_refuse, mX5_whyNoRow]
theorem ab_o5 : ∀ my ∈ ab_M5, ab_ok ab_Nl ab_Sl ab_M ab_G ab_Ws my := List.forall_mem_cons.mpr ⟨oX5_costs, List.forall_mem_cons.mpr ⟨oX5_dear, List.forall_mem_cons.mpr ⟨oX5_rich, List.forall_mem_cons.mpr ⟨oX5_judge, List.forall_mem_cons.mpr ⟨oX5_behind, List.forall_mem_cons.mpr ⟨oX5_done, List.forall_mem_cons.mpr ⟨oX5_cast, List.forall_mem_cons.mpr ⟨oX5_back, List.forall_mem_cons.mpr ⟨oX5_days, List.forall_mem_cons.mpr ⟨oX5_seed, List.forall_mem_cons.mpr ⟨oX5_act, List.forall_mem_cons.mpr ⟨oX5_trace, List.forall_mem_cons.mpr ⟨oX5_image, List.forall_mem_cons.mpr ⟨oX5_restore, List.forall_mem_cons.mpr ⟨oX5_status, List.forall_mem_cons.mpr ⟨oX5_isFrom, List.forall_mem_cons.mpr ⟨oX5_isOneOfTwo, List.forall_mem_cons.mpr ⟨oX5_isShelf, List.forall_mem_cons.mpr ⟨oX5_refuse, List.forall_mem_cons.mpr ⟨oX5_whyNoRow, fun _ h => absurd h List.not_mem_nil⟩⟩⟩⟩⟩⟩⟩⟩⟩⟩⟩⟩⟩⟩⟩⟩⟩⟩⟩⟩
def ab_M6 : List ab_D := [mX5_whyNoTwos, mX5_tellOne, mX5_throwBy, mX5_draftDay, mX5_areAllThere, mX5_isCost, mX5_dearest, mX5_crowd, mX6_init, mX6_no, mX6_noTen, mX6_isShelf, mX6_isPiece, mX6_isOne, mX6_isFrom, mX6_row, mX6_set, mX6_copy, mX6_element, mX6_show]
theorem ab_o6 : ∀ my ∈ ab_M6, ab_ok ab_Nl ab_Sl ab_M ab_G ab_Ws my := List.forall_mem_cons.mpr ⟨oX5_whyNoTwos, List.forall_mem_cons.mpr ⟨oX5_tellOne, List.forall_mem_cons.mpr ⟨oX5_throwBy, List.forall_mem_cons.mpr ⟨oX5_draftDay, List.forall_mem_cons.mpr ⟨oX5_areAllThere, List.forall_mem_cons.mpr ⟨oX5_isCost, List.forall_mem_cons.mpr ⟨oX5_dearest, List.forall_mem_cons.mpr ⟨oX5_crowd, List.forall_mem_cons.mpr ⟨oX6_init, List.forall_mem_cons.mpr ⟨oX6_no, List.forall_mem_cons.mpr ⟨oX6_noTen, List.forall_mem_cons.mpr ⟨oX6_isShelf, List.forall_mem_cons.mpr ⟨oX6_isPiece, List.forall_mem_cons.mpr ⟨oX6_isOne, List.forall_mem_cons.mpr ⟨oX6_isFrom, List.forall_mem_cons.mpr ⟨oX6_row, List.forall_mem_cons.mpr ⟨oX6_set, List.forall_mem_cons.mpr ⟨oX6_copy, List.forall_mem_cons.mpr ⟨oX6_element, List.forall_mem_cons.mpr ⟨oX6_show, fun _ h => absurd h List.not_mem_nil⟩⟩⟩⟩⟩⟩⟩⟩⟩⟩⟩⟩⟩⟩⟩⟩⟩⟩⟩⟩
def ab_M7 : List ab_D := [mX6_holds, mX6_says, mX6_wanted, mX6_intAt, mX6_worth, mX6_harms, mX6_addsPiece, mX6_addsPerson, mX6_piece, mX6_person, mX6_cost, mX6_rule, mX6_tell, mX6_piecesOf, mX6_pieceOf, mX6_personOf, mX6_wrong, mX6_stands, mX6_word, mX6_isDigit]
theorem ab_o7 : ∀ my ∈ ab_M7, ab_ok ab_Nl ab_Sl ab_M ab_G ab_Ws my := List.forall_mem_cons.mpr ⟨oX6_holds, List.forall_mem_cons.mpr ⟨oX6_says, List.forall_mem_cons.mpr ⟨oX6_wanted, List.forall_mem_cons.mpr ⟨oX6_intAt, List.forall_mem_cons.mpr ⟨oX6_worth, List.forall_mem_cons.mpr ⟨oX6_harms, List.forall_mem_cons.mpr ⟨oX6_addsPiece, List.forall_mem_cons.mpr ⟨oX6_addsPerson, List.forall_mem_cons.mpr ⟨oX6_piece, List.forall_mem_cons.mpr ⟨oX6_person, List.forall_mem_cons.mpr ⟨oX6_cost, List.forall_mem_cons.mpr ⟨oX6_rule, List.forall_mem_cons.mpr ⟨oX6_tell, List.forall_mem_cons.mpr ⟨oX6_piecesOf, List.forall_mem_cons.mpr ⟨oX6_pieceOf, List.forall_mem_cons.mpr ⟨oX6_personOf, List.forall_mem_cons.mpr ⟨oX6_wrong, List.forall_mem_cons.mpr ⟨oX6_stands, List.forall_mem_cons.mpr ⟨oX6_word, List.forall_mem_cons.mpr ⟨oX6_isDigit, fun _ h => absurd h List.not_mem_nil⟩⟩⟩⟩⟩⟩⟩⟩⟩⟩⟩⟩⟩⟩⟩⟩⟩⟩⟩⟩
def ab_M8 : List ab_D := [mX6_reads, mX6_isSo, mX6_item, mX6_carries, mX6_all, mX6_square, mX6_fault, mX6_many, mX6_worthOf, mX6_harmOf, mX6_tellsBest, mX6_greedyFor, mX6_changeFor, mX6_change, mX6_priceFor, mX6_price, mX6_thrown, mX6_tellsThrow, mX6_harm, mX6_best]
theorem ab_o8 : ∀ my ∈ ab_M8, ab_ok ab_Nl ab_Sl ab_M ab_G ab_Ws my := List.forall_mem_cons.mpr ⟨oX6_reads, List.forall_mem_cons.mpr ⟨oX6_isSo, List.forall_mem_cons.mpr ⟨oX6_item, List.forall_mem_cons.mpr ⟨oX6_carries, List.forall_mem_cons.mpr ⟨oX6_all, List.forall_mem_cons.mpr ⟨oX6_square, List.forall_mem_cons.mpr ⟨oX6_fault, List.forall_mem_cons.mpr ⟨oX6_many, List.forall_mem_cons.mpr ⟨oX6_worthOf, List.forall_mem_cons.mpr ⟨oX6_harmOf, List.forall_mem_cons.mpr ⟨oX6_tellsBest, List.forall_mem_cons.mpr ⟨oX6_greedyFor, List.forall_mem_cons.mpr ⟨oX6_changeFor, List.forall_mem_cons.mpr ⟨oX6_change, List.forall_mem_cons.mpr ⟨oX6_priceFor, List.forall_mem_cons.mpr ⟨oX6_price, List.forall_mem_cons.mpr ⟨oX6_thrown, List.forall_mem_cons.mpr ⟨oX6_tellsThrow, List.forall_mem_cons.mpr ⟨oX6_harm, List.forall_mem_cons.mpr ⟨oX6_best, fun _ h => absurd h List.not_mem_nil⟩⟩⟩⟩⟩⟩⟩⟩⟩⟩⟩⟩⟩⟩⟩⟩⟩⟩⟩⟩
def ab_M9 : List ab_D := [mX6_fails, mX6_manyAmounts, mX6_amounts, mX6_throwsIn, mX6_runs, mX6_run, mX6_barsOf, mX6_rules, mX6_costs, mX6_dearest, mX6_wanting, mX6_dear, mX6_rich, mX6_goes, mX6_judge, mX6_behind, mX6_done, mX6_cast, mX6_back, mX6_draw]
theorem ab_o9 : ∀ my ∈ ab_M9, ab_ok ab_Nl ab_Sl ab_M ab_G ab_Ws my := List.forall_mem_cons.mpr ⟨oX6_fails, List.forall_mem_cons.mpr ⟨oX6_manyAmounts, List.forall_mem_cons.mpr ⟨oX6_amounts, List.forall_mem_cons.mpr ⟨oX6_throwsIn, List.forall_mem_cons.mpr ⟨oX6_runs, List.forall_mem_cons.mpr ⟨oX6_run, List.forall_mem_cons.mpr ⟨oX6_barsOf, List.forall_mem_cons.mpr ⟨oX6_rules, List.forall_mem_cons.mpr ⟨oX6_costs, List.forall_mem_cons.mpr ⟨oX6_dearest, List.forall_mem_cons.mpr ⟨oX6_wanting, List.forall_mem_cons.mpr ⟨oX6_dear, List.forall_mem_cons.mpr ⟨oX6_rich, List.forall_mem_cons.mpr ⟨oX6_goes, List.forall_mem_cons.mpr ⟨oX6_judge, List.forall_mem_cons.mpr ⟨oX6_behind, List.forall_mem_cons.mpr ⟨oX6_done, List.forall_mem_cons.mpr ⟨oX6_cast, List.forall_mem_cons.mpr ⟨oX6_back, List.forall_mem_cons.mpr ⟨oX6_draw, fun _ h => absurd h List.not_mem_nil⟩⟩⟩⟩⟩⟩⟩⟩⟩⟩⟩⟩⟩⟩⟩⟩⟩⟩⟩⟩
def ab_M10 : List ab_D := [mX6_day, mX6_allGranted, mX6_days, mX6_seed, mX6_body, mX6_falling, mX6_ringing, mX6_sinking, mX6_act, mX6_trace, mX6_image, mX6_restore, mX6_status, mJ6_bitCount_0f7a4, mJ7_fill_d0a16, mJ7_fill_53178]
theorem ab_o10 : ∀ my ∈ ab_M10, ab_ok ab_Nl ab_Sl ab_M ab_G ab_Ws my := List.forall_mem_cons.mpr ⟨oX6_day, List.forall_mem_cons.mpr ⟨oX6_allGranted, List.forall_mem_cons.mpr ⟨oX6_days, List.forall_mem_cons.mpr ⟨oX6_seed, List.forall_mem_cons.mpr ⟨oX6_body, List.forall_mem_cons.mpr ⟨oX6_falling, List.forall_mem_cons.mpr ⟨oX6_ringing, List.forall_mem_cons.mpr ⟨oX6_sinking, List.forall_mem_cons.mpr ⟨oX6_act, List.forall_mem_cons.mpr ⟨oX6_trace, List.forall_mem_cons.mpr ⟨oX6_image, List.forall_mem_cons.mpr ⟨oX6_restore, List.forall_mem_cons.mpr ⟨oX6_status, List.forall_mem_cons.mpr ⟨oJ6_bitCount_0f7a4, List.forall_mem_cons.mpr ⟨oJ7_fill_d0a16, List.forall_mem_cons.mpr ⟨oJ7_fill_53178, fun _ h => absurd h List.not_mem_nil⟩⟩⟩⟩⟩⟩⟩⟩⟩⟩⟩⟩⟩⟩⟩⟩
set_option maxRecDepth 10000 in
theorem ab_M_eq : ab_M = ab_M0 ++ (ab_M1 ++ (ab_M2 ++ (ab_M3 ++ (ab_M4 ++ (ab_M5 ++ (ab_M6 ++ (ab_M7 ++ (ab_M8 ++ (ab_M9 ++ (ab_M10)))))))))) := rfl
theorem ab_M_ok : ∀ (y : Nat) (my : ab_D), ab_M[y]? = some my → ab_ok ab_Nl ab_Sl ab_M ab_G ab_Ws my := by
  intro y my hy
  have hm := List.mem_of_getElem? hy
  rw [ab_M_eq] at hm
  rcases List.mem_append.mp hm with hm | hm
  · exact ab_o0 my hm
  rcases List.mem_append.mp hm with hm | hm
  · exact ab_o1 my hm
  rcases List.mem_append.mp hm with hm | hm
  · exact ab_o2 my hm
  rcases List.mem_append.mp hm with hm | hm
  · exact ab_o3 my hm
  rcases List.mem_append.mp hm with hm | hm
  · exact ab_o4 my hm
  rcases List.mem_append.mp hm with hm | hm
  · exact ab_o5 my hm
  rcases List.mem_append.mp hm with hm | hm
  · exact ab_o6 my hm
  rcases List.mem_append.mp hm with hm | hm
  · exact ab_o7 my hm
  rcases List.mem_append.mp hm with hm | hm
  · exact ab_o8 my hm
  rcases List.mem_append.mp hm with hm | hm
  · exact ab_o9 my hm
  exact ab_o10 my hm
theorem ab_cqW : ∃ T N ty, ab_G 3 = some (RX3, T, N, ty) := ⟨_, _, _, rfl⟩
/-- a run of the machine of worlds is a contract -/
theorem ab_met {l : Launch} {D : va_G} {K : ab_Q} {d f y : Nat} {As : List Value} {cs : List ab_C} {v : Option Value} {cs2 : List ab_C} {my : ab_D} (hmy : ab_M[y]? = some my) (h : ab_run ab_M ab_G ab_Z0 d f y As cs = some (v, cs2)) : ab_Mt l D vwCl K ab_Cq ab_Ws my d As cs v cs2 := ab_run_ok ab_Ws_good ab_cgW ab_cqW rfl ab_M_ok d f y As cs v cs2 my hmy h
end
section
/-! the law, as the machine of worlds reads it; by program (wip/tools/tables.py) -/
def mL_law : ab_D := (x, code, 4, some .boolean, 99, 1, false, [
  [some (.new 7, 3, (2, 5, 0), [1016, 1017, 1001]), none, none, some (.dup, 1, (0, 99999, 0), []), some (.invokespecial 9, 3, (5, 75, 0), [1018, 1019, 1001]), none, none, some (.astore_n 1, 1, (0, 99999, 0), []), some (.new 10, 3, (2, 6, 0), [4091, 4092, 1007]), none, none, some (.dup, 1, (0, 99999, 0), []), some (.invokespecial 12, 3, (5, 128, 0), [4093, 4094, 1007]), none, none, some (.astore_n 2, 1, (0, 99999, 0), [])],
  [some (.iconst 0, 1, (0, 99999, 0), []), some (.istore_n 3, 1, (0, 99999, 0), []), some (.iload_n 3, 1, (0, 99999, 0), []), some (.aload_n 0, 1, (0, 99999, 0), []), some (.arraylength, 1, (0, 99999, 0), []), some (.bipush 6, 2, (0, 99999, 0), []), none, some (.isub, 1, (0, 99999, 0), []), some (.if_icmp .gt 1434, 3, (0, 99999, 0), []), none, none, some (.aload_n 0, 1, (0, 99999, 0), []), some (.iload_n 3, 1, (0, 99999, 0), []), some (.iaload, 1, (0, 99999, 0), []), some (.bipush 63, 2, (0, 99999, 0), []), none],
  [some (.iand, 1, (0, 99999, 0), []), some (.tableswitch 1419 0 38 #[171, 214, 287, 350, 384, 417, 440, 473, 516, 559, 592, 615, 658, 691, 724, 747, 760, 793, 826, 859, 892, 915, 938, 961, 994, 1047, 1070, 1093, 1126, 1169, 1202, 1235, 1258, 1281, 1304, 1347, 1370, 1383, 1396], 171, (0, 99999, 0), []), none, none, none, none, none, none, none, none, none, none, none, none, none, none],
  [none, none, none, none, none, none, none, none, none, none, none, none, none, none, none, none],
  [none, none, none, none, none, none, none, none, none, none, none, none, none, none, none, none],
  [none, none, none, none, none, none, none, none, none, none, none, none, none, none, none, none],
  [none, none, none, none, none, none, none, none, none, none, none, none, none, none, none, none],
  [none, none, none, none, none, none, none, none, none, none, none, none, none, none, none, none],
  [none, none, none, none, none, none, none, none, none, none, none, none, none, none, none, none],
  [none, none, none, none, none, none, none, none, none, none, none, none, none, none, none, none],
  [none, none, none, none, none, none, none, none, none, none, none, none, none, none, none, none],
  [none, none, none, none, none, none, none, none, none, none, none, none, none, none, none, none],
  [none, none, none, none, none, none, none, none, none, none, none, none, some (.aload_n 1, 1, (0, 99999, 0), []), some (.aload_n 0, 1, (0, 99999, 0), []), some (.iload_n 3, 1, (0, 99999, 0), []), some (.iconst 1, 1, (0, 99999, 0), [])],
  [some (.iadd, 1, (0, 99999, 0), []), some (.iaload, 1, (0, 99999, 0), []), some (.aload_n 0, 1, (0, 99999, 0), []), some (.iload_n 3, 1, (0, 99999, 0), []), some (.iconst 2, 1, (0, 99999, 0), []), some (.iadd, 1, (0, 99999, 0), []), some (.iaload, 1, (0, 99999, 0), []), some (.aload_n 0, 1, (0, 99999, 0), []), some (.iload_n 3, 1, (0, 99999, 0), []), some (.iconst 3, 1, (0, 99999, 0), []), some (.iadd, 1, (0, 99999, 0), []), some (.iaload, 1, (0, 99999, 0), []), some (.invokevirtual 13, 3, (3, 76, 3), [1213, 1214, 1215, 1001]), none, none, some (.aload_n 2, 1, (0, 99999, 0), [])],
  [some (.aload_n 0, 1, (0, 99999, 0), []), some (.iload_n 3, 1, (0, 99999, 0), []), some (.iconst 1, 1, (0, 99999, 0), []), some (.iadd, 1, (0, 99999, 0), []), some (.iaload, 1, (0, 99999, 0), []), some (.aload_n 0, 1, (0, 99999, 0), []), some (.iload_n 3, 1, (0, 99999, 0), []), some (.iconst 2, 1, (0, 99999, 0), []), some (.iadd, 1, (0, 99999, 0), []), some (.iaload, 1, (0, 99999, 0), []), some (.aload_n 0, 1, (0, 99999, 0), []), some (.iload_n 3, 1, (0, 99999, 0), []), some (.iconst 3, 1, (0, 99999, 0), []), some (.iadd, 1, (0, 99999, 0), []), some (.iaload, 1, (0, 99999, 0), []), some (.invokevirtual 17, 3, (3, 135, 3), [5005, 5006, 5007, 1007])],
  [none, none, some (.if_icmp .eq 1210, 3, (0, 99999, 0), []), none, none, some (.iconst 0, 1, (0, 99999, 0), []), some (.ireturn, 1, (0, 99999, 0), []), some (.aload_n 1, 1, (0, 99999, 0), []), some (.aload_n 0, 1, (0, 99999, 0), []), some (.iload_n 3, 1, (0, 99999, 0), []), some (.iconst 1, 1, (0, 99999, 0), []), some (.iadd, 1, (0, 99999, 0), []), some (.iaload, 1, (0, 99999, 0), []), some (.aload_n 0, 1, (0, 99999, 0), []), some (.iload_n 3, 1, (0, 99999, 0), []), some (.iconst 2, 1, (0, 99999, 0), [])],
  [some (.iadd, 1, (0, 99999, 0), []), some (.iaload, 1, (0, 99999, 0), []), some (.aload_n 0, 1, (0, 99999, 0), []), some (.iload_n 3, 1, (0, 99999, 0), []), some (.iconst 3, 1, (0, 99999, 0), []), some (.iadd, 1, (0, 99999, 0), []), some (.iaload, 1, (0, 99999, 0), []), some (.i2l, 1, (0, 99999, 0), []), some (.bipush 32, 2, (0, 99999, 0), []), none, some (.lshl, 1, (0, 99999, 0), []), some (.aload_n 0, 1, (0, 99999, 0), []), some (.iload_n 3, 1, (0, 99999, 0), []), some (.iconst 4, 1, (0, 99999, 0), []), some (.iadd, 1, (0, 99999, 0), []), some (.iaload, 1, (0, 99999, 0), [])],
  [some (.i2l, 1, (0, 99999, 0), []), some (.ldc2_w 18, 3, (11, 4294967295, 0), [6102]), none, none, some (.land, 1, (0, 99999, 0), []), some (.lor, 1, (0, 99999, 0), []), some (.invokevirtual 20, 3, (3, 77, 3), [1234, 1235, 1236, 1001]), none, none, some (.aload_n 2, 1, (0, 99999, 0), []), some (.aload_n 0, 1, (0, 99999, 0), []), some (.iload_n 3, 1, (0, 99999, 0), []), some (.iconst 1, 1, (0, 99999, 0), []), some (.iadd, 1, (0, 99999, 0), []), some (.iaload, 1, (0, 99999, 0), []), some (.aload_n 0, 1, (0, 99999, 0), [])],
  [some (.iload_n 3, 1, (0, 99999, 0), []), some (.iconst 2, 1, (0, 99999, 0), []), some (.iadd, 1, (0, 99999, 0), []), some (.iaload, 1, (0, 99999, 0), []), some (.aload_n 0, 1, (0, 99999, 0), []), some (.iload_n 3, 1, (0, 99999, 0), []), some (.iconst 3, 1, (0, 99999, 0), []), some (.iadd, 1, (0, 99999, 0), []), some (.iaload, 1, (0, 99999, 0), []), some (.i2l, 1, (0, 99999, 0), []), some (.bipush 32, 2, (0, 99999, 0), []), none, some (.lshl, 1, (0, 99999, 0), []), some (.aload_n 0, 1, (0, 99999, 0), []), some (.iload_n 3, 1, (0, 99999, 0), []), some (.iconst 4, 1, (0, 99999, 0), [])],
  [some (.iadd, 1, (0, 99999, 0), []), some (.iaload, 1, (0, 99999, 0), []), some (.i2l, 1, (0, 99999, 0), []), some (.ldc2_w 18, 3, (11, 4294967295, 0), [6102]), none, none, some (.land, 1, (0, 99999, 0), []), some (.lor, 1, (0, 99999, 0), []), some (.invokevirtual 24, 3, (3, 136, 3), [5017, 5018, 5019, 1007]), none, none, some (.if_icmp .eq 1137, 3, (0, 99999, 0), []), none, none, some (.iconst 0, 1, (0, 99999, 0), []), some (.ireturn, 1, (0, 99999, 0), [])],
  [some (.aload_n 1, 1, (0, 99999, 0), []), some (.aload_n 0, 1, (0, 99999, 0), []), some (.iload_n 3, 1, (0, 99999, 0), []), some (.iconst 1, 1, (0, 99999, 0), []), some (.iadd, 1, (0, 99999, 0), []), some (.iaload, 1, (0, 99999, 0), []), some (.aload_n 0, 1, (0, 99999, 0), []), some (.iload_n 3, 1, (0, 99999, 0), []), some (.iconst 2, 1, (0, 99999, 0), []), some (.iadd, 1, (0, 99999, 0), []), some (.iaload, 1, (0, 99999, 0), []), some (.aload_n 0, 1, (0, 99999, 0), []), some (.iload_n 3, 1, (0, 99999, 0), []), some (.iconst 3, 1, (0, 99999, 0), []), some (.iadd, 1, (0, 99999, 0), []), some (.iaload, 1, (0, 99999, 0), [])],
  [some (.aload_n 0, 1, (0, 99999, 0), []), some (.iload_n 3, 1, (0, 99999, 0), []), some (.iconst 4, 1, (0, 99999, 0), []), some (.iadd, 1, (0, 99999, 0), []), some (.iaload, 1, (0, 99999, 0), []), some (.aload_n 0, 1, (0, 99999, 0), []), some (.iload_n 3, 1, (0, 99999, 0), []), some (.iconst 5, 1, (0, 99999, 0), []), some (.iadd, 1, (0, 99999, 0), []), some (.iaload, 1, (0, 99999, 0), []), some (.invokevirtual 25, 3, (3, 78, 5), [2023, 2024, 2025, 1001]), none, none, some (.aload_n 2, 1, (0, 99999, 0), []), some (.aload_n 0, 1, (0, 99999, 0), []), some (.iload_n 3, 1, (0, 99999, 0), [])],
  [some (.iconst 1, 1, (0, 99999, 0), []), some (.iadd, 1, (0, 99999, 0), []), some (.iaload, 1, (0, 99999, 0), []), some (.aload_n 0, 1, (0, 99999, 0), []), some (.iload_n 3, 1, (0, 99999, 0), []), some (.iconst 2, 1, (0, 99999, 0), []), some (.iadd, 1, (0, 99999, 0), []), some (.iaload, 1, (0, 99999, 0), []), some (.aload_n 0, 1, (0, 99999, 0), []), some (.iload_n 3, 1, (0, 99999, 0), []), some (.iconst 3, 1, (0, 99999, 0), []), some (.iadd, 1, (0, 99999, 0), []), some (.iaload, 1, (0, 99999, 0), []), some (.aload_n 0, 1, (0, 99999, 0), []), some (.iload_n 3, 1, (0, 99999, 0), []), some (.iconst 4, 1, (0, 99999, 0), [])],
  [some (.iadd, 1, (0, 99999, 0), []), some (.iaload, 1, (0, 99999, 0), []), some (.aload_n 0, 1, (0, 99999, 0), []), some (.iload_n 3, 1, (0, 99999, 0), []), some (.iconst 5, 1, (0, 99999, 0), []), some (.iadd, 1, (0, 99999, 0), []), some (.iaload, 1, (0, 99999, 0), []), some (.invokevirtual 29, 3, (3, 137, 5), [5021, 5022, 5023, 1007]), none, none, some (.if_icmp .eq 1074, 3, (0, 99999, 0), []), none, none, some (.iconst 0, 1, (0, 99999, 0), []), some (.ireturn, 1, (0, 99999, 0), []), some (.aload_n 1, 1, (0, 99999, 0), [])],
  [some (.aload_n 0, 1, (0, 99999, 0), []), some (.iload_n 3, 1, (0, 99999, 0), []), some (.iconst 1, 1, (0, 99999, 0), []), some (.iadd, 1, (0, 99999, 0), []), some (.iaload, 1, (0, 99999, 0), []), some (.aload_n 0, 1, (0, 99999, 0), []), some (.iload_n 3, 1, (0, 99999, 0), []), some (.iconst 2, 1, (0, 99999, 0), []), some (.iadd, 1, (0, 99999, 0), []), some (.iaload, 1, (0, 99999, 0), []), some (.invokevirtual 30, 3, (3, 79, 2), [2044, 2045, 2046, 1001]), none, none, some (.aload_n 2, 1, (0, 99999, 0), []), some (.aload_n 0, 1, (0, 99999, 0), []), some (.iload_n 3, 1, (0, 99999, 0), [])],
  [some (.iconst 1, 1, (0, 99999, 0), []), some (.iadd, 1, (0, 99999, 0), []), some (.iaload, 1, (0, 99999, 0), []), some (.aload_n 0, 1, (0, 99999, 0), []), some (.iload_n 3, 1, (0, 99999, 0), []), some (.iconst 2, 1, (0, 99999, 0), []), some (.iadd, 1, (0, 99999, 0), []), some (.iaload, 1, (0, 99999, 0), []), some (.invokevirtual 34, 3, (3, 138, 2), [5025, 5026, 5027, 1007]), none, none, some (.lcmp, 1, (0, 99999, 0), []), some (.ifCond .eq 1040, 3, (0, 99999, 0), []), none, none, some (.iconst 0, 1, (0, 99999, 0), [])],
  [some (.ireturn, 1, (0, 99999, 0), []), some (.aload_n 1, 1, (0, 99999, 0), []), some (.aload_n 0, 1, (0, 99999, 0), []), some (.iload_n 3, 1, (0, 99999, 0), []), some (.iconst 1, 1, (0, 99999, 0), []), some (.iadd, 1, (0, 99999, 0), []), some (.iaload, 1, (0, 99999, 0), []), some (.aload_n 0, 1, (0, 99999, 0), []), some (.iload_n 3, 1, (0, 99999, 0), []), some (.iconst 2, 1, (0, 99999, 0), []), some (.iadd, 1, (0, 99999, 0), []), some (.iaload, 1, (0, 99999, 0), []), some (.invokevirtual 35, 3, (3, 80, 2), [2052, 2053, 2054, 1001]), none, none, some (.aload_n 2, 1, (0, 99999, 0), [])],
  [some (.aload_n 0, 1, (0, 99999, 0), []), some (.iload_n 3, 1, (0, 99999, 0), []), some (.iconst 1, 1, (0, 99999, 0), []), some (.iadd, 1, (0, 99999, 0), []), some (.iaload, 1, (0, 99999, 0), []), some (.aload_n 0, 1, (0, 99999, 0), []), some (.iload_n 3, 1, (0, 99999, 0), []), some (.iconst 2, 1, (0, 99999, 0), []), some (.iadd, 1, (0, 99999, 0), []), some (.iaload, 1, (0, 99999, 0), []), some (.invokevirtual 39, 3, (3, 139, 2), [5029, 5030, 5031, 1007]), none, none, some (.if_icmp .eq 1007, 3, (0, 99999, 0), []), none, none],
  [some (.iconst 0, 1, (0, 99999, 0), []), some (.ireturn, 1, (0, 99999, 0), []), some (.aload_n 1, 1, (0, 99999, 0), []), some (.aload_n 0, 1, (0, 99999, 0), []), some (.iload_n 3, 1, (0, 99999, 0), []), some (.iconst 1, 1, (0, 99999, 0), []), some (.iadd, 1, (0, 99999, 0), []), some (.iaload, 1, (0, 99999, 0), []), some (.invokevirtual 40, 3, (3, 81, 1), [2064, 2065, 2066, 1001]), none, none, some (.aload_n 2, 1, (0, 99999, 0), []), some (.aload_n 0, 1, (0, 99999, 0), []), some (.iload_n 3, 1, (0, 99999, 0), []), some (.iconst 1, 1, (0, 99999, 0), []), some (.iadd, 1, (0, 99999, 0), [])],
  [some (.iaload, 1, (0, 99999, 0), []), some (.invokevirtual 44, 3, (3, 140, 1), [5037, 5038, 5039, 1007]), none, none, some (.if_icmp .eq 984, 3, (0, 99999, 0), []), none, none, some (.iconst 0, 1, (0, 99999, 0), []), some (.ireturn, 1, (0, 99999, 0), []), some (.aload_n 1, 1, (0, 99999, 0), []), some (.aload_n 0, 1, (0, 99999, 0), []), some (.iload_n 3, 1, (0, 99999, 0), []), some (.iconst 1, 1, (0, 99999, 0), []), some (.iadd, 1, (0, 99999, 0), []), some (.iaload, 1, (0, 99999, 0), []), some (.aload_n 0, 1, (0, 99999, 0), [])],
  [some (.iload_n 3, 1, (0, 99999, 0), []), some (.iconst 2, 1, (0, 99999, 0), []), some (.iadd, 1, (0, 99999, 0), []), some (.iaload, 1, (0, 99999, 0), []), some (.invokevirtual 45, 3, (3, 82, 2), [2068, 2069, 2070, 1001]), none, none, some (.aload_n 2, 1, (0, 99999, 0), []), some (.aload_n 0, 1, (0, 99999, 0), []), some (.iload_n 3, 1, (0, 99999, 0), []), some (.iconst 1, 1, (0, 99999, 0), []), some (.iadd, 1, (0, 99999, 0), []), some (.iaload, 1, (0, 99999, 0), []), some (.aload_n 0, 1, (0, 99999, 0), []), some (.iload_n 3, 1, (0, 99999, 0), []), some (.iconst 2, 1, (0, 99999, 0), [])],
  [some (.iadd, 1, (0, 99999, 0), []), some (.iaload, 1, (0, 99999, 0), []), some (.invokevirtual 48, 3, (3, 141, 2), [5041, 5042, 5043, 1007]), none, none, some (.if_icmp .eq 951, 3, (0, 99999, 0), []), none, none, some (.iconst 0, 1, (0, 99999, 0), []), some (.ireturn, 1, (0, 99999, 0), []), some (.aload_n 1, 1, (0, 99999, 0), []), some (.aload_n 0, 1, (0, 99999, 0), []), some (.iload_n 3, 1, (0, 99999, 0), []), some (.iconst 1, 1, (0, 99999, 0), []), some (.iadd, 1, (0, 99999, 0), []), some (.iaload, 1, (0, 99999, 0), [])],
  [some (.aload_n 0, 1, (0, 99999, 0), []), some (.iload_n 3, 1, (0, 99999, 0), []), some (.iconst 2, 1, (0, 99999, 0), []), some (.iadd, 1, (0, 99999, 0), []), some (.iaload, 1, (0, 99999, 0), []), some (.aload_n 0, 1, (0, 99999, 0), []), some (.iload_n 3, 1, (0, 99999, 0), []), some (.iconst 3, 1, (0, 99999, 0), []), some (.iadd, 1, (0, 99999, 0), []), some (.iaload, 1, (0, 99999, 0), []), some (.invokevirtual 49, 3, (3, 83, 3), [2093, 2094, 2095, 1001]), none, none, some (.aload_n 2, 1, (0, 99999, 0), []), some (.aload_n 0, 1, (0, 99999, 0), []), some (.iload_n 3, 1, (0, 99999, 0), [])],
  [some (.iconst 1, 1, (0, 99999, 0), []), some (.iadd, 1, (0, 99999, 0), []), some (.iaload, 1, (0, 99999, 0), []), some (.aload_n 0, 1, (0, 99999, 0), []), some (.iload_n 3, 1, (0, 99999, 0), []), some (.iconst 2, 1, (0, 99999, 0), []), some (.iadd, 1, (0, 99999, 0), []), some (.iaload, 1, (0, 99999, 0), []), some (.aload_n 0, 1, (0, 99999, 0), []), some (.iload_n 3, 1, (0, 99999, 0), []), some (.iconst 3, 1, (0, 99999, 0), []), some (.iadd, 1, (0, 99999, 0), []), some (.iaload, 1, (0, 99999, 0), []), some (.invokevirtual 52, 3, (3, 148, 3), [5053, 5054, 5055, 1007]), none, none],
  [some (.if_icmp .eq 908, 3, (0, 99999, 0), []), none, none, some (.iconst 0, 1, (0, 99999, 0), []), some (.ireturn, 1, (0, 99999, 0), []), some (.aload_n 1, 1, (0, 99999, 0), []), some (.aload_n 0, 1, (0, 99999, 0), []), some (.iload_n 3, 1, (0, 99999, 0), []), some (.iconst 1, 1, (0, 99999, 0), []), some (.iadd, 1, (0, 99999, 0), []), some (.iaload, 1, (0, 99999, 0), []), some (.aload_n 0, 1, (0, 99999, 0), []), some (.iload_n 3, 1, (0, 99999, 0), []), some (.iconst 2, 1, (0, 99999, 0), []), some (.iadd, 1, (0, 99999, 0), []), some (.iaload, 1, (0, 99999, 0), [])],
  [some (.aload_n 0, 1, (0, 99999, 0), []), some (.iload_n 3, 1, (0, 99999, 0), []), some (.iconst 3, 1, (0, 99999, 0), []), some (.iadd, 1, (0, 99999, 0), []), some (.iaload, 1, (0, 99999, 0), []), some (.invokevirtual 53, 3, (3, 84, 3), [2106, 2107, 2108, 1001]), none, none, some (.aload_n 2, 1, (0, 99999, 0), []), some (.aload_n 0, 1, (0, 99999, 0), []), some (.iload_n 3, 1, (0, 99999, 0), []), some (.iconst 1, 1, (0, 99999, 0), []), some (.iadd, 1, (0, 99999, 0), []), some (.iaload, 1, (0, 99999, 0), []), some (.aload_n 0, 1, (0, 99999, 0), []), some (.iload_n 3, 1, (0, 99999, 0), [])],
  [some (.iconst 2, 1, (0, 99999, 0), []), some (.iadd, 1, (0, 99999, 0), []), some (.iaload, 1, (0, 99999, 0), []), some (.aload_n 0, 1, (0, 99999, 0), []), some (.iload_n 3, 1, (0, 99999, 0), []), some (.iconst 3, 1, (0, 99999, 0), []), some (.iadd, 1, (0, 99999, 0), []), some (.iaload, 1, (0, 99999, 0), []), some (.invokevirtual 56, 3, (3, 149, 3), [5065, 5066, 5067, 1007]), none, none, some (.if_icmp .eq 865, 3, (0, 99999, 0), []), none, none, some (.iconst 0, 1, (0, 99999, 0), []), some (.ireturn, 1, (0, 99999, 0), [])],
  [some (.aload_n 1, 1, (0, 99999, 0), []), some (.aload_n 0, 1, (0, 99999, 0), []), some (.iload_n 3, 1, (0, 99999, 0), []), some (.iconst 1, 1, (0, 99999, 0), []), some (.iadd, 1, (0, 99999, 0), []), some (.iaload, 1, (0, 99999, 0), []), some (.aload_n 0, 1, (0, 99999, 0), []), some (.iload_n 3, 1, (0, 99999, 0), []), some (.iconst 2, 1, (0, 99999, 0), []), some (.iadd, 1, (0, 99999, 0), []), some (.iaload, 1, (0, 99999, 0), []), some (.invokevirtual 57, 3, (3, 85, 2), [2122, 2123, 2124, 1001]), none, none, some (.aload_n 2, 1, (0, 99999, 0), []), some (.aload_n 0, 1, (0, 99999, 0), [])],
  [some (.iload_n 3, 1, (0, 99999, 0), []), some (.iconst 1, 1, (0, 99999, 0), []), some (.iadd, 1, (0, 99999, 0), []), some (.iaload, 1, (0, 99999, 0), []), some (.aload_n 0, 1, (0, 99999, 0), []), some (.iload_n 3, 1, (0, 99999, 0), []), some (.iconst 2, 1, (0, 99999, 0), []), some (.iadd, 1, (0, 99999, 0), []), some (.iaload, 1, (0, 99999, 0), []), some (.invokevirtual 60, 3, (3, 150, 2), [5073, 5074, 5075, 1007]), none, none, some (.if_icmp .eq 832, 3, (0, 99999, 0), []), none, none, some (.iconst 0, 1, (0, 99999, 0), [])],
  [some (.ireturn, 1, (0, 99999, 0), []), some (.aload_n 1, 1, (0, 99999, 0), []), some (.aload_n 0, 1, (0, 99999, 0), []), some (.iload_n 3, 1, (0, 99999, 0), []), some (.iconst 1, 1, (0, 99999, 0), []), some (.iadd, 1, (0, 99999, 0), []), some (.iaload, 1, (0, 99999, 0), []), some (.invokevirtual 61, 3, (3, 86, 1), [2126, 2127, 2128, 1001]), none, none, some (.aload_n 2, 1, (0, 99999, 0), []), some (.aload_n 0, 1, (0, 99999, 0), []), some (.iload_n 3, 1, (0, 99999, 0), []), some (.iconst 1, 1, (0, 99999, 0), []), some (.iadd, 1, (0, 99999, 0), []), some (.iaload, 1, (0, 99999, 0), [])],
  [some (.invokevirtual 64, 3, (3, 151, 1), [5077, 5078, 5079, 1007]), none, none, some (.if_icmp .eq 809, 3, (0, 99999, 0), []), none, none, some (.iconst 0, 1, (0, 99999, 0), []), some (.ireturn, 1, (0, 99999, 0), []), some (.aload_n 1, 1, (0, 99999, 0), []), some (.aload_n 0, 1, (0, 99999, 0), []), some (.iload_n 3, 1, (0, 99999, 0), []), some (.iconst 1, 1, (0, 99999, 0), []), some (.iadd, 1, (0, 99999, 0), []), some (.iaload, 1, (0, 99999, 0), []), some (.aload_n 0, 1, (0, 99999, 0), []), some (.iload_n 3, 1, (0, 99999, 0), [])],
  [some (.iconst 2, 1, (0, 99999, 0), []), some (.iadd, 1, (0, 99999, 0), []), some (.iaload, 1, (0, 99999, 0), []), some (.aload_n 0, 1, (0, 99999, 0), []), some (.iload_n 3, 1, (0, 99999, 0), []), some (.iconst 3, 1, (0, 99999, 0), []), some (.iadd, 1, (0, 99999, 0), []), some (.iaload, 1, (0, 99999, 0), []), some (.invokevirtual 65, 3, (3, 87, 3), [2130, 2131, 2132, 1001]), none, none, some (.aload_n 2, 1, (0, 99999, 0), []), some (.aload_n 0, 1, (0, 99999, 0), []), some (.iload_n 3, 1, (0, 99999, 0), []), some (.iconst 1, 1, (0, 99999, 0), []), some (.iadd, 1, (0, 99999, 0), [])],
  [some (.iaload, 1, (0, 99999, 0), []), some (.aload_n 0, 1, (0, 99999, 0), []), some (.iload_n 3, 1, (0, 99999, 0), []), some (.iconst 2, 1, (0, 99999, 0), []), some (.iadd, 1, (0, 99999, 0), []), some (.iaload, 1, (0, 99999, 0), []), some (.aload_n 0, 1, (0, 99999, 0), []), some (.iload_n 3, 1, (0, 99999, 0), []), some (.iconst 3, 1, (0, 99999, 0), []), some (.iadd, 1, (0, 99999, 0), []), some (.iaload, 1, (0, 99999, 0), []), some (.invokevirtual 68, 3, (3, 152, 3), [5081, 5082, 5083, 1007]), none, none, some (.if_icmp .eq 766, 3, (0, 99999, 0), []), none],
  [none, some (.iconst 0, 1, (0, 99999, 0), []), some (.ireturn, 1, (0, 99999, 0), []), some (.aload_n 1, 1, (0, 99999, 0), []), some (.aload_n 0, 1, (0, 99999, 0), []), some (.iload_n 3, 1, (0, 99999, 0), []), some (.iconst 1, 1, (0, 99999, 0), []), some (.iadd, 1, (0, 99999, 0), []), some (.iaload, 1, (0, 99999, 0), []), some (.aload_n 0, 1, (0, 99999, 0), []), some (.iload_n 3, 1, (0, 99999, 0), []), some (.iconst 2, 1, (0, 99999, 0), []), some (.iadd, 1, (0, 99999, 0), []), some (.iaload, 1, (0, 99999, 0), []), some (.invokevirtual 69, 3, (3, 88, 2), [2142, 2143, 2144, 1001]), none],
  [none, some (.aload_n 2, 1, (0, 99999, 0), []), some (.aload_n 0, 1, (0, 99999, 0), []), some (.iload_n 3, 1, (0, 99999, 0), []), some (.iconst 1, 1, (0, 99999, 0), []), some (.iadd, 1, (0, 99999, 0), []), some (.iaload, 1, (0, 99999, 0), []), some (.aload_n 0, 1, (0, 99999, 0), []), some (.iload_n 3, 1, (0, 99999, 0), []), some (.iconst 2, 1, (0, 99999, 0), []), some (.iadd, 1, (0, 99999, 0), []), some (.iaload, 1, (0, 99999, 0), []), some (.invokevirtual 72, 3, (3, 154, 2), [5089, 5090, 5091, 1007]), none, none, some (.if_icmp .eq 733, 3, (0, 99999, 0), [])],
  [none, none, some (.iconst 0, 1, (0, 99999, 0), []), some (.ireturn, 1, (0, 99999, 0), []), some (.aload_n 1, 1, (0, 99999, 0), []), some (.aload_n 0, 1, (0, 99999, 0), []), some (.iload_n 3, 1, (0, 99999, 0), []), some (.iconst 1, 1, (0, 99999, 0), []), some (.iadd, 1, (0, 99999, 0), []), some (.iaload, 1, (0, 99999, 0), []), some (.aload_n 0, 1, (0, 99999, 0), []), some (.iload_n 3, 1, (0, 99999, 0), []), some (.iconst 2, 1, (0, 99999, 0), []), some (.iadd, 1, (0, 99999, 0), []), some (.iaload, 1, (0, 99999, 0), []), some (.invokevirtual 73, 3, (3, 89, 2), [2146, 2147, 2148, 1001])],
  [none, none, some (.aload_n 2, 1, (0, 99999, 0), []), some (.aload_n 0, 1, (0, 99999, 0), []), some (.iload_n 3, 1, (0, 99999, 0), []), some (.iconst 1, 1, (0, 99999, 0), []), some (.iadd, 1, (0, 99999, 0), []), some (.iaload, 1, (0, 99999, 0), []), some (.aload_n 0, 1, (0, 99999, 0), []), some (.iload_n 3, 1, (0, 99999, 0), []), some (.iconst 2, 1, (0, 99999, 0), []), some (.iadd, 1, (0, 99999, 0), []), some (.iaload, 1, (0, 99999, 0), []), some (.invokevirtual 76, 3, (3, 155, 2), [5093, 5094, 5095, 1007]), none, none],
  [some (.if_icmp .eq 700, 3, (0, 99999, 0), []), none, none, some (.iconst 0, 1, (0, 99999, 0), []), some (.ireturn, 1, (0, 99999, 0), []), some (.aload_n 1, 1, (0, 99999, 0), []), some (.aload_n 0, 1, (0, 99999, 0), []), some (.iload_n 3, 1, (0, 99999, 0), []), some (.iconst 1, 1, (0, 99999, 0), []), some (.iadd, 1, (0, 99999, 0), []), some (.iaload, 1, (0, 99999, 0), []), some (.invokevirtual 77, 3, (3, 90, 1), [2154, 2155, 2156, 1001]), none, none, some (.aload_n 2, 1, (0, 99999, 0), []), some (.aload_n 0, 1, (0, 99999, 0), [])],
  [some (.iload_n 3, 1, (0, 99999, 0), []), some (.iconst 1, 1, (0, 99999, 0), []), some (.iadd, 1, (0, 99999, 0), []), some (.iaload, 1, (0, 99999, 0), []), some (.invokevirtual 80, 3, (3, 165, 1), [5101, 5102, 5103, 1007]), none, none, some (.if_icmp .eq 677, 3, (0, 99999, 0), []), none, none, some (.iconst 0, 1, (0, 99999, 0), []), some (.ireturn, 1, (0, 99999, 0), []), some (.aload_n 1, 1, (0, 99999, 0), []), some (.invokevirtual 81, 3, (3, 91, 0), [3056, 3057, 3058, 1001]), none, none],
  [some (.aload_n 2, 1, (0, 99999, 0), []), some (.invokevirtual 85, 3, (3, 166, 0), [5145, 5146, 5147, 1007]), none, none, some (.if_icmp .eq 664, 3, (0, 99999, 0), []), none, none, some (.iconst 0, 1, (0, 99999, 0), []), some (.ireturn, 1, (0, 99999, 0), []), some (.aload_n 1, 1, (0, 99999, 0), []), some (.aload_n 0, 1, (0, 99999, 0), []), some (.iload_n 3, 1, (0, 99999, 0), []), some (.iconst 1, 1, (0, 99999, 0), []), some (.iadd, 1, (0, 99999, 0), []), some (.iaload, 1, (0, 99999, 0), []), some (.aload_n 0, 1, (0, 99999, 0), [])],
  [some (.iload_n 3, 1, (0, 99999, 0), []), some (.iconst 2, 1, (0, 99999, 0), []), some (.iadd, 1, (0, 99999, 0), []), some (.iaload, 1, (0, 99999, 0), []), some (.invokevirtual 86, 3, (3, 92, 2), [3060, 3061, 3062, 1001]), none, none, some (.aload_n 2, 1, (0, 99999, 0), []), some (.aload_n 0, 1, (0, 99999, 0), []), some (.iload_n 3, 1, (0, 99999, 0), []), some (.iconst 1, 1, (0, 99999, 0), []), some (.iadd, 1, (0, 99999, 0), []), some (.iaload, 1, (0, 99999, 0), []), some (.aload_n 0, 1, (0, 99999, 0), []), some (.iload_n 3, 1, (0, 99999, 0), []), some (.iconst 2, 1, (0, 99999, 0), [])],
  [some (.iadd, 1, (0, 99999, 0), []), some (.iaload, 1, (0, 99999, 0), []), some (.invokevirtual 89, 3, (3, 175, 2), [5177, 5178, 5179, 1007]), none, none, some (.if_icmp .eq 631, 3, (0, 99999, 0), []), none, none, some (.iconst 0, 1, (0, 99999, 0), []), some (.ireturn, 1, (0, 99999, 0), []), some (.aload_n 1, 1, (0, 99999, 0), []), some (.aload_n 0, 1, (0, 99999, 0), []), some (.iload_n 3, 1, (0, 99999, 0), []), some (.iconst 1, 1, (0, 99999, 0), []), some (.iadd, 1, (0, 99999, 0), []), some (.iaload, 1, (0, 99999, 0), [])],
  [some (.aload_n 0, 1, (0, 99999, 0), []), some (.iload_n 3, 1, (0, 99999, 0), []), some (.iconst 2, 1, (0, 99999, 0), []), some (.iadd, 1, (0, 99999, 0), []), some (.iaload, 1, (0, 99999, 0), []), some (.invokevirtual 90, 3, (3, 93, 2), [3076, 3077, 3078, 1001]), none, none, some (.aload_n 2, 1, (0, 99999, 0), []), some (.aload_n 0, 1, (0, 99999, 0), []), some (.iload_n 3, 1, (0, 99999, 0), []), some (.iconst 1, 1, (0, 99999, 0), []), some (.iadd, 1, (0, 99999, 0), []), some (.iaload, 1, (0, 99999, 0), []), some (.aload_n 0, 1, (0, 99999, 0), []), some (.iload_n 3, 1, (0, 99999, 0), [])],
  [some (.iconst 2, 1, (0, 99999, 0), []), some (.iadd, 1, (0, 99999, 0), []), some (.iaload, 1, (0, 99999, 0), []), some (.invokevirtual 93, 3, (3, 173, 2), [5149, 5150, 5151, 1007]), none, none, some (.if_icmp .eq 598, 3, (0, 99999, 0), []), none, none, some (.iconst 0, 1, (0, 99999, 0), []), some (.ireturn, 1, (0, 99999, 0), []), some (.aload_n 1, 1, (0, 99999, 0), []), some (.aload_n 0, 1, (0, 99999, 0), []), some (.iload_n 3, 1, (0, 99999, 0), []), some (.iconst 1, 1, (0, 99999, 0), []), some (.iadd, 1, (0, 99999, 0), [])],
  [some (.iaload, 1, (0, 99999, 0), []), some (.aload_n 0, 1, (0, 99999, 0), []), some (.iload_n 3, 1, (0, 99999, 0), []), some (.iconst 2, 1, (0, 99999, 0), []), some (.iadd, 1, (0, 99999, 0), []), some (.iaload, 1, (0, 99999, 0), []), some (.invokevirtual 94, 3, (3, 94, 2), [3128, 3129, 3130, 1001]), none, none, some (.aload_n 2, 1, (0, 99999, 0), []), some (.aload_n 0, 1, (0, 99999, 0), []), some (.iload_n 3, 1, (0, 99999, 0), []), some (.iconst 1, 1, (0, 99999, 0), []), some (.iadd, 1, (0, 99999, 0), []), some (.iaload, 1, (0, 99999, 0), []), some (.aload_n 0, 1, (0, 99999, 0), [])],
  [some (.iload_n 3, 1, (0, 99999, 0), []), some (.iconst 2, 1, (0, 99999, 0), []), some (.iadd, 1, (0, 99999, 0), []), some (.iaload, 1, (0, 99999, 0), []), some (.invokevirtual 97, 3, (3, 178, 2), [5185, 5186, 5187, 1007]), none, none, some (.if_icmp .eq 565, 3, (0, 99999, 0), []), none, none, some (.iconst 0, 1, (0, 99999, 0), []), some (.ireturn, 1, (0, 99999, 0), []), some (.aload_n 1, 1, (0, 99999, 0), []), some (.aload_n 0, 1, (0, 99999, 0), []), some (.iload_n 3, 1, (0, 99999, 0), []), some (.iconst 1, 1, (0, 99999, 0), [])],
  [some (.iadd, 1, (0, 99999, 0), []), some (.iaload, 1, (0, 99999, 0), []), some (.aload_n 0, 1, (0, 99999, 0), []), some (.iload_n 3, 1, (0, 99999, 0), []), some (.iconst 2, 1, (0, 99999, 0), []), some (.iadd, 1, (0, 99999, 0), []), some (.iaload, 1, (0, 99999, 0), []), some (.invokevirtual 98, 3, (3, 95, 2), [3141, 3142, 3143, 1001]), none, none, some (.aload_n 2, 1, (0, 99999, 0), []), some (.aload_n 0, 1, (0, 99999, 0), []), some (.iload_n 3, 1, (0, 99999, 0), []), some (.iconst 1, 1, (0, 99999, 0), []), some (.iadd, 1, (0, 99999, 0), []), some (.iaload, 1, (0, 99999, 0), [])],
  [some (.aload_n 0, 1, (0, 99999, 0), []), some (.iload_n 3, 1, (0, 99999, 0), []), some (.iconst 2, 1, (0, 99999, 0), []), some (.iadd, 1, (0, 99999, 0), []), some (.iaload, 1, (0, 99999, 0), []), some (.invokevirtual 101, 3, (3, 179, 2), [5197, 5198, 5199, 1007]), none, none, some (.if_icmp .eq 532, 3, (0, 99999, 0), []), none, none, some (.iconst 0, 1, (0, 99999, 0), []), some (.ireturn, 1, (0, 99999, 0), []), some (.aload_n 1, 1, (0, 99999, 0), []), some (.aload_n 0, 1, (0, 99999, 0), []), some (.iload_n 3, 1, (0, 99999, 0), [])],
  [some (.iconst 1, 1, (0, 99999, 0), []), some (.iadd, 1, (0, 99999, 0), []), some (.iaload, 1, (0, 99999, 0), []), some (.invokevirtual 102, 3, (3, 96, 1), [3150, 3151, 3152, 1001]), none, none, some (.aload_n 2, 1, (0, 99999, 0), []), some (.aload_n 0, 1, (0, 99999, 0), []), some (.iload_n 3, 1, (0, 99999, 0), []), some (.iconst 1, 1, (0, 99999, 0), []), some (.iadd, 1, (0, 99999, 0), []), some (.iaload, 1, (0, 99999, 0), []), some (.invokevirtual 105, 3, (3, 180, 1), [5205, 5206, 5207, 1007]), none, none, some (.if_icmp .eq 509, 3, (0, 99999, 0), [])],
  [none, none, some (.iconst 0, 1, (0, 99999, 0), []), some (.ireturn, 1, (0, 99999, 0), []), some (.aload_n 1, 1, (0, 99999, 0), []), some (.aload_n 0, 1, (0, 99999, 0), []), some (.iload_n 3, 1, (0, 99999, 0), []), some (.iconst 1, 1, (0, 99999, 0), []), some (.iadd, 1, (0, 99999, 0), []), some (.iaload, 1, (0, 99999, 0), []), some (.invokevirtual 106, 3, (3, 97, 1), [3164, 3165, 3166, 1001]), none, none, some (.aload_n 2, 1, (0, 99999, 0), []), some (.aload_n 0, 1, (0, 99999, 0), []), some (.iload_n 3, 1, (0, 99999, 0), [])],
  [some (.iconst 1, 1, (0, 99999, 0), []), some (.iadd, 1, (0, 99999, 0), []), some (.iaload, 1, (0, 99999, 0), []), some (.invokevirtual 109, 3, (3, 182, 1), [5209, 5210, 5211, 1007]), none, none, some (.if_icmp .eq 486, 3, (0, 99999, 0), []), none, none, some (.iconst 0, 1, (0, 99999, 0), []), some (.ireturn, 1, (0, 99999, 0), []), some (.aload_n 1, 1, (0, 99999, 0), []), some (.aload_n 0, 1, (0, 99999, 0), []), some (.iload_n 3, 1, (0, 99999, 0), []), some (.iconst 1, 1, (0, 99999, 0), []), some (.iadd, 1, (0, 99999, 0), [])],
  [some (.iaload, 1, (0, 99999, 0), []), some (.invokevirtual 110, 3, (3, 98, 1), [3172, 3173, 3174, 1001]), none, none, some (.aload_n 2, 1, (0, 99999, 0), []), some (.aload_n 0, 1, (0, 99999, 0), []), some (.iload_n 3, 1, (0, 99999, 0), []), some (.iconst 1, 1, (0, 99999, 0), []), some (.iadd, 1, (0, 99999, 0), []), some (.iaload, 1, (0, 99999, 0), []), some (.invokevirtual 113, 3, (3, 185, 1), [5217, 5218, 5219, 1007]), none, none, some (.if_icmp .eq 463, 3, (0, 99999, 0), []), none, none],
  [some (.iconst 0, 1, (0, 99999, 0), []), some (.ireturn, 1, (0, 99999, 0), []), some (.aload_n 1, 1, (0, 99999, 0), []), some (.aload_n 0, 1, (0, 99999, 0), []), some (.iload_n 3, 1, (0, 99999, 0), []), some (.iconst 1, 1, (0, 99999, 0), []), some (.iadd, 1, (0, 99999, 0), []), some (.iaload, 1, (0, 99999, 0), []), some (.aload_n 0, 1, (0, 99999, 0), []), some (.iload_n 3, 1, (0, 99999, 0), []), some (.iconst 2, 1, (0, 99999, 0), []), some (.iadd, 1, (0, 99999, 0), []), some (.iaload, 1, (0, 99999, 0), []), some (.invokevirtual 114, 3, (3, 99, 2), [3176, 3177, 3178, 1001]), none, none],
  [some (.aload_n 2, 1, (0, 99999, 0), []), some (.aload_n 0, 1, (0, 99999, 0), []), some (.iload_n 3, 1, (0, 99999, 0), []), some (.iconst 1, 1, (0, 99999, 0), []), some (.iadd, 1, (0, 99999, 0), []), some (.iaload, 1, (0, 99999, 0), []), some (.aload_n 0, 1, (0, 99999, 0), []), some (.iload_n 3, 1, (0, 99999, 0), []), some (.iconst 2, 1, (0, 99999, 0), []), some (.iadd, 1, (0, 99999, 0), []), some (.iaload, 1, (0, 99999, 0), []), some (.invokevirtual 117, 3, (3, 187, 2), [5229, 5230, 5231, 1007]), none, none, some (.if_icmp .eq 430, 3, (0, 99999, 0), []), none],
  [none, some (.iconst 0, 1, (0, 99999, 0), []), some (.ireturn, 1, (0, 99999, 0), []), some (.aload_n 1, 1, (0, 99999, 0), []), some (.aload_n 0, 1, (0, 99999, 0), []), some (.iload_n 3, 1, (0, 99999, 0), []), some (.iconst 1, 1, (0, 99999, 0), []), some (.iadd, 1, (0, 99999, 0), []), some (.iaload, 1, (0, 99999, 0), []), some (.aload_n 0, 1, (0, 99999, 0), []), some (.iload_n 3, 1, (0, 99999, 0), []), some (.iconst 2, 1, (0, 99999, 0), []), some (.iadd, 1, (0, 99999, 0), []), some (.iaload, 1, (0, 99999, 0), []), some (.aload_n 0, 1, (0, 99999, 0), []), some (.iload_n 3, 1, (0, 99999, 0), [])],
  [some (.iconst 3, 1, (0, 99999, 0), []), some (.iadd, 1, (0, 99999, 0), []), some (.iaload, 1, (0, 99999, 0), []), some (.aload_n 0, 1, (0, 99999, 0), []), some (.iload_n 3, 1, (0, 99999, 0), []), some (.iconst 4, 1, (0, 99999, 0), []), some (.iadd, 1, (0, 99999, 0), []), some (.iaload, 1, (0, 99999, 0), []), some (.invokevirtual 118, 3, (3, 100, 4), [3192, 3193, 3194, 1001]), none, none, some (.aload_n 2, 1, (0, 99999, 0), []), some (.aload_n 0, 1, (0, 99999, 0), []), some (.iload_n 3, 1, (0, 99999, 0), []), some (.iconst 1, 1, (0, 99999, 0), []), some (.iadd, 1, (0, 99999, 0), [])],
  [some (.iaload, 1, (0, 99999, 0), []), some (.aload_n 0, 1, (0, 99999, 0), []), some (.iload_n 3, 1, (0, 99999, 0), []), some (.iconst 2, 1, (0, 99999, 0), []), some (.iadd, 1, (0, 99999, 0), []), some (.iaload, 1, (0, 99999, 0), []), some (.aload_n 0, 1, (0, 99999, 0), []), some (.iload_n 3, 1, (0, 99999, 0), []), some (.iconst 3, 1, (0, 99999, 0), []), some (.iadd, 1, (0, 99999, 0), []), some (.iaload, 1, (0, 99999, 0), []), some (.aload_n 0, 1, (0, 99999, 0), []), some (.iload_n 3, 1, (0, 99999, 0), []), some (.iconst 4, 1, (0, 99999, 0), []), some (.iadd, 1, (0, 99999, 0), []), some (.iaload, 1, (0, 99999, 0), [])],
  [some (.invokevirtual 122, 3, (3, 188, 4), [6001, 6002, 6003, 1007]), none, none, some (.if_icmp .eq 377, 3, (0, 99999, 0), []), none, none, some (.iconst 0, 1, (0, 99999, 0), []), some (.ireturn, 1, (0, 99999, 0), []), some (.aload_n 1, 1, (0, 99999, 0), []), some (.aload_n 0, 1, (0, 99999, 0), []), some (.iload_n 3, 1, (0, 99999, 0), []), some (.iconst 1, 1, (0, 99999, 0), []), some (.iadd, 1, (0, 99999, 0), []), some (.iaload, 1, (0, 99999, 0), []), some (.invokevirtual 123, 3, (3, 101, 1), [3205, 3206, 3207, 1001]), none],
  [none, some (.aload_n 2, 1, (0, 99999, 0), []), some (.aload_n 0, 1, (0, 99999, 0), []), some (.iload_n 3, 1, (0, 99999, 0), []), some (.iconst 1, 1, (0, 99999, 0), []), some (.iadd, 1, (0, 99999, 0), []), some (.iaload, 1, (0, 99999, 0), []), some (.invokevirtual 126, 3, (3, 191, 1), [6005, 6006, 6007, 1007]), none, none, some (.if_icmp .eq 354, 3, (0, 99999, 0), []), none, none, some (.iconst 0, 1, (0, 99999, 0), []), some (.ireturn, 1, (0, 99999, 0), []), some (.aload_n 1, 1, (0, 99999, 0), [])],
  [some (.aload_n 0, 1, (0, 99999, 0), []), some (.iload_n 3, 1, (0, 99999, 0), []), some (.iconst 1, 1, (0, 99999, 0), []), some (.iadd, 1, (0, 99999, 0), []), some (.iaload, 1, (0, 99999, 0), []), some (.invokevirtual 127, 3, (3, 102, 1), [3219, 3220, 3221, 1001]), none, none, some (.aload_n 2, 1, (0, 99999, 0), []), some (.aload_n 0, 1, (0, 99999, 0), []), some (.iload_n 3, 1, (0, 99999, 0), []), some (.iconst 1, 1, (0, 99999, 0), []), some (.iadd, 1, (0, 99999, 0), []), some (.iaload, 1, (0, 99999, 0), []), some (.invokevirtual 130, 3, (3, 192, 1), [6017, 6018, 6019, 1007]), none],
  [none, some (.if_icmp .eq 331, 3, (0, 99999, 0), []), none, none, some (.iconst 0, 1, (0, 99999, 0), []), some (.ireturn, 1, (0, 99999, 0), []), some (.aload_n 1, 1, (0, 99999, 0), []), some (.aload_n 0, 1, (0, 99999, 0), []), some (.iload_n 3, 1, (0, 99999, 0), []), some (.iconst 1, 1, (0, 99999, 0), []), some (.iadd, 1, (0, 99999, 0), []), some (.iaload, 1, (0, 99999, 0), []), some (.aload_n 0, 1, (0, 99999, 0), []), some (.iload_n 3, 1, (0, 99999, 0), []), some (.iconst 2, 1, (0, 99999, 0), []), some (.iadd, 1, (0, 99999, 0), [])],
  [some (.iaload, 1, (0, 99999, 0), []), some (.invokevirtual 131, 3, (3, 103, 2), [3227, 3228, 3229, 1001]), none, none, some (.aload_n 2, 1, (0, 99999, 0), []), some (.aload_n 0, 1, (0, 99999, 0), []), some (.iload_n 3, 1, (0, 99999, 0), []), some (.iconst 1, 1, (0, 99999, 0), []), some (.iadd, 1, (0, 99999, 0), []), some (.iaload, 1, (0, 99999, 0), []), some (.aload_n 0, 1, (0, 99999, 0), []), some (.iload_n 3, 1, (0, 99999, 0), []), some (.iconst 2, 1, (0, 99999, 0), []), some (.iadd, 1, (0, 99999, 0), []), some (.iaload, 1, (0, 99999, 0), []), some (.invokevirtual 134, 3, (3, 194, 2), [6021, 6022, 6023, 1007])],
  [none, none, some (.if_icmp .eq 298, 3, (0, 99999, 0), []), none, none, some (.iconst 0, 1, (0, 99999, 0), []), some (.ireturn, 1, (0, 99999, 0), []), some (.aload_n 1, 1, (0, 99999, 0), []), some (.aload_n 0, 1, (0, 99999, 0), []), some (.iload_n 3, 1, (0, 99999, 0), []), some (.iconst 1, 1, (0, 99999, 0), []), some (.iadd, 1, (0, 99999, 0), []), some (.iaload, 1, (0, 99999, 0), []), some (.aload_n 0, 1, (0, 99999, 0), []), some (.iload_n 3, 1, (0, 99999, 0), []), some (.iconst 2, 1, (0, 99999, 0), [])],
  [some (.iadd, 1, (0, 99999, 0), []), some (.iaload, 1, (0, 99999, 0), []), some (.aload_n 0, 1, (0, 99999, 0), []), some (.iload_n 3, 1, (0, 99999, 0), []), some (.iconst 3, 1, (0, 99999, 0), []), some (.iadd, 1, (0, 99999, 0), []), some (.iaload, 1, (0, 99999, 0), []), some (.invokevirtual 135, 3, (3, 104, 3), [3239, 4000, 4001, 1001]), none, none, some (.aload_n 2, 1, (0, 99999, 0), []), some (.aload_n 0, 1, (0, 99999, 0), []), some (.iload_n 3, 1, (0, 99999, 0), []), some (.iconst 1, 1, (0, 99999, 0), []), some (.iadd, 1, (0, 99999, 0), []), some (.iaload, 1, (0, 99999, 0), [])],
  [some (.aload_n 0, 1, (0, 99999, 0), []), some (.iload_n 3, 1, (0, 99999, 0), []), some (.iconst 2, 1, (0, 99999, 0), []), some (.iadd, 1, (0, 99999, 0), []), some (.iaload, 1, (0, 99999, 0), []), some (.aload_n 0, 1, (0, 99999, 0), []), some (.iload_n 3, 1, (0, 99999, 0), []), some (.iconst 3, 1, (0, 99999, 0), []), some (.iadd, 1, (0, 99999, 0), []), some (.iaload, 1, (0, 99999, 0), []), some (.invokevirtual 138, 3, (3, 195, 3), [6029, 6030, 6031, 1007]), none, none, some (.if_icmp .eq 255, 3, (0, 99999, 0), []), none, none],
  [some (.iconst 0, 1, (0, 99999, 0), []), some (.ireturn, 1, (0, 99999, 0), []), some (.aload_n 1, 1, (0, 99999, 0), []), some (.aload_n 0, 1, (0, 99999, 0), []), some (.iload_n 3, 1, (0, 99999, 0), []), some (.iconst 1, 1, (0, 99999, 0), []), some (.iadd, 1, (0, 99999, 0), []), some (.iaload, 1, (0, 99999, 0), []), some (.aload_n 0, 1, (0, 99999, 0), []), some (.iload_n 3, 1, (0, 99999, 0), []), some (.iconst 2, 1, (0, 99999, 0), []), some (.iadd, 1, (0, 99999, 0), []), some (.iaload, 1, (0, 99999, 0), []), some (.invokevirtual 139, 3, (3, 105, 2), [4003, 4004, 4005, 1001]), none, none],
  [some (.aload_n 2, 1, (0, 99999, 0), []), some (.aload_n 0, 1, (0, 99999, 0), []), some (.iload_n 3, 1, (0, 99999, 0), []), some (.iconst 1, 1, (0, 99999, 0), []), some (.iadd, 1, (0, 99999, 0), []), some (.iaload, 1, (0, 99999, 0), []), some (.aload_n 0, 1, (0, 99999, 0), []), some (.iload_n 3, 1, (0, 99999, 0), []), some (.iconst 2, 1, (0, 99999, 0), []), some (.iadd, 1, (0, 99999, 0), []), some (.iaload, 1, (0, 99999, 0), []), some (.invokevirtual 142, 3, (3, 196, 2), [6033, 6034, 6035, 1007]), none, none, some (.if_icmp .eq 222, 3, (0, 99999, 0), []), none],
  [none, some (.iconst 0, 1, (0, 99999, 0), []), some (.ireturn, 1, (0, 99999, 0), []), some (.aload_n 1, 1, (0, 99999, 0), []), some (.aload_n 0, 1, (0, 99999, 0), []), some (.iload_n 3, 1, (0, 99999, 0), []), some (.iconst 1, 1, (0, 99999, 0), []), some (.iadd, 1, (0, 99999, 0), []), some (.iaload, 1, (0, 99999, 0), []), some (.aload_n 0, 1, (0, 99999, 0), []), some (.iload_n 3, 1, (0, 99999, 0), []), some (.iconst 2, 1, (0, 99999, 0), []), some (.iadd, 1, (0, 99999, 0), []), some (.iaload, 1, (0, 99999, 0), []), some (.invokevirtual 143, 3, (3, 106, 2), [4007, 4008, 4009, 1001]), none],
  [none, some (.aload_n 2, 1, (0, 99999, 0), []), some (.aload_n 0, 1, (0, 99999, 0), []), some (.iload_n 3, 1, (0, 99999, 0), []), some (.iconst 1, 1, (0, 99999, 0), []), some (.iadd, 1, (0, 99999, 0), []), some (.iaload, 1, (0, 99999, 0), []), some (.aload_n 0, 1, (0, 99999, 0), []), some (.iload_n 3, 1, (0, 99999, 0), []), some (.iconst 2, 1, (0, 99999, 0), []), some (.iadd, 1, (0, 99999, 0), []), some (.iaload, 1, (0, 99999, 0), []), some (.invokevirtual 146, 3, (3, 197, 2), [6037, 6038, 6039, 1007]), none, none, some (.if_icmp .eq 189, 3, (0, 99999, 0), [])],
  [none, none, some (.iconst 0, 1, (0, 99999, 0), []), some (.ireturn, 1, (0, 99999, 0), []), some (.aload_n 1, 1, (0, 99999, 0), []), some (.aload_n 0, 1, (0, 99999, 0), []), some (.iload_n 3, 1, (0, 99999, 0), []), some (.iconst 1, 1, (0, 99999, 0), []), some (.iadd, 1, (0, 99999, 0), []), some (.iaload, 1, (0, 99999, 0), []), some (.invokevirtual 147, 3, (3, 107, 1), [4011, 4012, 4013, 1001]), none, none, some (.aload_n 2, 1, (0, 99999, 0), []), some (.aload_n 0, 1, (0, 99999, 0), []), some (.iload_n 3, 1, (0, 99999, 0), [])],
  [some (.iconst 1, 1, (0, 99999, 0), []), some (.iadd, 1, (0, 99999, 0), []), some (.iaload, 1, (0, 99999, 0), []), some (.invokevirtual 150, 3, (3, 198, 1), [6041, 6042, 6043, 1007]), none, none, some (.if_icmp .eq 166, 3, (0, 99999, 0), []), none, none, some (.iconst 0, 1, (0, 99999, 0), []), some (.ireturn, 1, (0, 99999, 0), []), some (.aload_n 1, 1, (0, 99999, 0), []), some (.aload_n 0, 1, (0, 99999, 0), []), some (.iload_n 3, 1, (0, 99999, 0), []), some (.iconst 1, 1, (0, 99999, 0), []), some (.iadd, 1, (0, 99999, 0), [])],
  [some (.iaload, 1, (0, 99999, 0), []), some (.invokevirtual 151, 3, (3, 108, 1), [4015, 4016, 4017, 1001]), none, none, some (.aload_n 2, 1, (0, 99999, 0), []), some (.aload_n 0, 1, (0, 99999, 0), []), some (.iload_n 3, 1, (0, 99999, 0), []), some (.iconst 1, 1, (0, 99999, 0), []), some (.iadd, 1, (0, 99999, 0), []), some (.iaload, 1, (0, 99999, 0), []), some (.invokevirtual 154, 3, (3, 202, 1), [6045, 6046, 6047, 1007]), none, none, some (.if_icmp .eq 143, 3, (0, 99999, 0), []), none, none],
  [some (.iconst 0, 1, (0, 99999, 0), []), some (.ireturn, 1, (0, 99999, 0), []), some (.aload_n 1, 1, (0, 99999, 0), []), some (.aload_n 0, 1, (0, 99999, 0), []), some (.iload_n 3, 1, (0, 99999, 0), []), some (.iconst 1, 1, (0, 99999, 0), []), some (.iadd, 1, (0, 99999, 0), []), some (.iaload, 1, (0, 99999, 0), []), some (.invokevirtual 155, 3, (3, 109, 1), [4041, 4042, 4043, 1001]), none, none, some (.aload_n 2, 1, (0, 99999, 0), []), some (.aload_n 0, 1, (0, 99999, 0), []), some (.iload_n 3, 1, (0, 99999, 0), []), some (.iconst 1, 1, (0, 99999, 0), []), some (.iadd, 1, (0, 99999, 0), [])],
  [some (.iaload, 1, (0, 99999, 0), []), some (.invokevirtual 158, 3, (3, 203, 1), [6062, 6063, 6064, 1007]), none, none, some (.if_icmp .eq 120, 3, (0, 99999, 0), []), none, none, some (.iconst 0, 1, (0, 99999, 0), []), some (.ireturn, 1, (0, 99999, 0), []), some (.aload_n 1, 1, (0, 99999, 0), []), some (.aload_n 0, 1, (0, 99999, 0), []), some (.iload_n 3, 1, (0, 99999, 0), []), some (.iconst 1, 1, (0, 99999, 0), []), some (.iadd, 1, (0, 99999, 0), []), some (.iaload, 1, (0, 99999, 0), []), some (.aload_n 0, 1, (0, 99999, 0), [])],
  [some (.iload_n 3, 1, (0, 99999, 0), []), some (.iconst 2, 1, (0, 99999, 0), []), some (.iadd, 1, (0, 99999, 0), []), some (.iaload, 1, (0, 99999, 0), []), some (.aload_n 0, 1, (0, 99999, 0), []), some (.iload_n 3, 1, (0, 99999, 0), []), some (.iconst 3, 1, (0, 99999, 0), []), some (.iadd, 1, (0, 99999, 0), []), some (.iaload, 1, (0, 99999, 0), []), some (.invokevirtual 159, 3, (3, 110, 3), [4045, 4046, 4047, 1001]), none, none, some (.aload_n 2, 1, (0, 99999, 0), []), some (.aload_n 0, 1, (0, 99999, 0), []), some (.iload_n 3, 1, (0, 99999, 0), []), some (.iconst 1, 1, (0, 99999, 0), [])],
  [some (.iadd, 1, (0, 99999, 0), []), some (.iaload, 1, (0, 99999, 0), []), some (.aload_n 0, 1, (0, 99999, 0), []), some (.iload_n 3, 1, (0, 99999, 0), []), some (.iconst 2, 1, (0, 99999, 0), []), some (.iadd, 1, (0, 99999, 0), []), some (.iaload, 1, (0, 99999, 0), []), some (.aload_n 0, 1, (0, 99999, 0), []), some (.iload_n 3, 1, (0, 99999, 0), []), some (.iconst 3, 1, (0, 99999, 0), []), some (.iadd, 1, (0, 99999, 0), []), some (.iaload, 1, (0, 99999, 0), []), some (.invokevirtual 162, 3, (3, 208, 3), [6066, 6067, 6068, 1007]), none, none, some (.if_icmp .eq 77, 3, (0, 99999, 0), [])],
  [none, none, some (.iconst 0, 1, (0, 99999, 0), []), some (.ireturn, 1, (0, 99999, 0), []), some (.aload_n 1, 1, (0, 99999, 0), []), some (.aload_n 0, 1, (0, 99999, 0), []), some (.iload_n 3, 1, (0, 99999, 0), []), some (.iconst 1, 1, (0, 99999, 0), []), some (.iadd, 1, (0, 99999, 0), []), some (.iaload, 1, (0, 99999, 0), []), some (.invokevirtual 163, 3, (3, 111, 1), [4071, 4072, 4073, 1001]), none, none, some (.aload_n 2, 1, (0, 99999, 0), []), some (.aload_n 0, 1, (0, 99999, 0), []), some (.iload_n 3, 1, (0, 99999, 0), [])],
  [some (.iconst 1, 1, (0, 99999, 0), []), some (.iadd, 1, (0, 99999, 0), []), some (.iaload, 1, (0, 99999, 0), []), some (.invokevirtual 166, 3, (3, 209, 1), [6086, 6087, 6088, 1007]), none, none, some (.if_icmp .eq 54, 3, (0, 99999, 0), []), none, none, some (.iconst 0, 1, (0, 99999, 0), []), some (.ireturn, 1, (0, 99999, 0), []), some (.aload_n 1, 1, (0, 99999, 0), []), some (.invokevirtual 167, 3, (3, 112, 0), [4079, 4080, 4081, 1001]), none, none, some (.aload_n 2, 1, (0, 99999, 0), [])],
  [some (.invokevirtual 170, 3, (3, 210, 0), [6090, 6091, 6092, 1007]), none, none, some (.if_icmp .eq 41, 3, (0, 99999, 0), []), none, none, some (.iconst 0, 1, (0, 99999, 0), []), some (.ireturn, 1, (0, 99999, 0), []), some (.aload_n 1, 1, (0, 99999, 0), []), some (.invokevirtual 171, 3, (3, 113, 0), [4083, 4084, 4085, 1001]), none, none, some (.aload_n 2, 1, (0, 99999, 0), []), some (.invokevirtual 174, 3, (3, 211, 0), [6094, 6095, 6096, 1007]), none, none],
  [some (.if_icmp .eq 28, 3, (0, 99999, 0), []), none, none, some (.iconst 0, 1, (0, 99999, 0), []), some (.ireturn, 1, (0, 99999, 0), []), some (.aload_n 1, 1, (0, 99999, 0), []), some (.aload_n 0, 1, (0, 99999, 0), []), some (.iload_n 3, 1, (0, 99999, 0), []), some (.iconst 1, 1, (0, 99999, 0), []), some (.iadd, 1, (0, 99999, 0), []), some (.iaload, 1, (0, 99999, 0), []), some (.invokevirtual 175, 3, (3, 114, 1), [4087, 4088, 4089, 1001]), none, none, some (.aload_n 2, 1, (0, 99999, 0), []), some (.aload_n 0, 1, (0, 99999, 0), [])],
  [some (.iload_n 3, 1, (0, 99999, 0), []), some (.iconst 1, 1, (0, 99999, 0), []), some (.iadd, 1, (0, 99999, 0), []), some (.iaload, 1, (0, 99999, 0), []), some (.invokevirtual 178, 3, (3, 212, 1), [6098, 6099, 6100, 1007]), none, none, some (.if_icmp .eq 5, 3, (0, 99999, 0), []), none, none, some (.iconst 0, 1, (0, 99999, 0), []), some (.ireturn, 1, (0, 99999, 0), []), some (.iinc 3 6, 3, (0, 99999, 0), []), none, none, some (.goto (-1437), 3, (0, 99999, 0), [])],
  [none, none, some (.iconst 1, 1, (0, 99999, 0), []), some (.ireturn, 1, (0, 99999, 0), [])]])
theorem kL_law_0 : ab_ckr mL_law 0 = true := by decide +kernel
theorem kL_law_1 : ab_ckr mL_law 1 = true := by decide +kernel
theorem kL_law_2 : ab_ckr mL_law 2 = true := by decide +kernel
theorem kL_law_3 : ab_ckr mL_law 3 = true := by decide +kernel
theorem kL_law_4 : ab_ckr mL_law 4 = true := by decide +kernel
theorem kL_law_5 : ab_ckr mL_law 5 = true := by decide +kernel
theorem kL_law_6 : ab_ckr mL_law 6 = true := by decide +kernel
theorem kL_law_7 : ab_ckr mL_law 7 = true := by decide +kernel
theorem kL_law_8 : ab_ckr mL_law 8 = true := by decide +kernel
theorem kL_law_9 : ab_ckr mL_law 9 = true := by decide +kernel
theorem kL_law_10 : ab_ckr mL_law 10 = true := by decide +kernel
theorem kL_law_11 : ab_ckr mL_law 11 = true := by decide +kernel
theorem kL_law : ∀ j, j < 12 → ab_ckr mL_law j = true := fun j h => by
  match j, h with
  | 0, _ => exact kL_law_0
  | 1, _ => exact kL_law_1
  | 2, _ => exact kL_law_2
  | 3, _ => exact kL_law_3
  | 4, _ => exact kL_law_4
  | 5, _ => exact kL_law_5
  | 6, _ => exact kL_law_6
  | 7, _ => exact kL_law_7
  | 8, _ => exact kL_law_8
  | 9, _ => exact kL_law_9
  | 10, _ => exact kL_law_10
  | 11, _ => exact kL_law_11
theorem ab_law_at : ∀ (pc : Nat) (ins : Instr) (len : Nat) (k : ab_K) (ps : List Nat), ab_at mL_law pc = some (ins, len, k, ps) → decode mL_law.2.1 pc = .ok (ins, len) ∧ (∀ w ∈ ab_wd ab_Sl ab_M ab_G mL_law.1.cls ins k, w ∈ ab_Ws) ∧ ab_nd ab_Nl ab_Sl ab_M mL_law.1.cls ins k := ab_ck_at kL_law (by decide +kernel)
end
section
/-! from the law's entry: a run of the machine of worlds is the claim -/
theorem ab_Mt_more {l : Launch} {D : va_G} {cl : List vw_C} {K : ab_Q} {Cn : String} {Nl : ab_N} {Tb : List (List Int32)} {Sl : List (String × String)} {Ws : List Jvm.Cond} {md : ab_D} {d : Nat} {As : List Value} {cs : List ab_C} {v : Option Value} {cs2 : List ab_C} (h : ab_Mt l D cl K (Cn, Nl, Tb, Sl) Ws md d As cs v cs2) (T2 : List (List Int32)) : ab_Mt l D cl K (Cn, Nl, Tb ++ T2, Sl) Ws md d As cs v cs2 := by
  intro ad sz p e ha hc hk s m args below hf happ hP hT
  refine h ad sz p e ha hc hk s m args below hf happ ⟨hP.1, hP.2.1, hP.2.2.1, hP.2.2.2.1, hP.2.2.2.2.1, fun j t q => hP.2.2.2.2.2.1 j t ?_, hP.2.2.2.2.2.2⟩ hT
  show (Tb ++ T2)[j]? = some t
  rw [List.getElem?_append_left (List.getElem?_eq_some_iff.mp q).1]
  exact q
theorem ab_arr {s : State} {args : Array Value} {ty : FieldType} (h : (Jvm.Cond.arrayClass ty).before args s = true) : ∃ (cA : ClassId) (kA : Class) (comp : ClassId), s.vm.findClass ("[" ++ ty.toString) = some cA ∧ s.vm.classes[cA]? = some kA ∧ kA.kind = .array comp ty := Cond.arrayClass_spec h
/-- the classes, at the law's entry -/
theorem ab_world0 {s : State} {args : Array Value} (hts : ∀ w ∈ lw_tbl, w.before args s = true) (hc : ∀ (ci : Nat) (q : vw_C), vwCl[ci]? = some q → ∃ n, (Jvm.Cond.instantiable q.1 n).before args s = true) (hi : (Jvm.Cond.arrayClass .int).before args s = true) (hl : (Jvm.Cond.arrayClass .long).before args s = true) (ho : (Jvm.Cond.arrayOver (.object RX3)).before args s = true) :
    ∃ (D : va_G) (K : ab_Q), ab_WK D vwCl K (RX3, ab_Nl, ab_Tb, ab_Sl) s := by
  have hk : ∀ (ci : Nat), ∃ r : ClassId × (Nat → Nat), ∀ q : vw_C, vwCl[ci]? = some q → u_Kn s q.1 q.2.1 q.2.2 r.1 r.2 := by
    intro ci
    cases hq : vwCl[ci]? with
    | none => exact ⟨(0, fun _ => 0), fun q h => by cases h⟩
    | some q =>
      obtain ⟨C, T, N⟩ := q
      have hin : ∀ w ∈ u_ws C T N, w ∈ lw_tbl := by
        have hG : ∃ ty, ab_G ci = some (C, T, N, ty) := by
          match ci, hq with
          | 0, hq => cases hq; exact ⟨_, rfl⟩
          | 1, hq => cases hq; exact ⟨_, rfl⟩
          | 2, hq => cases hq; exact ⟨_, rfl⟩
          | 3, hq => cases hq; exact ⟨_, rfl⟩
          | 4, hq => cases hq; exact ⟨_, rfl⟩
          | 5, hq => cases hq; exact ⟨_, rfl⟩
          | 6, hq => cases hq; exact ⟨_, rfl⟩
          | ci + 7, hq => simp at hq
        obtain ⟨ty, hG⟩ := hG
        exact fun w hw => (ab_Ws_tbl w ((ab_cgW _ _ _ _ _ hG).2.1 w hw)).1
      obtain ⟨n, hn⟩ := hc ci _ hq
      obtain ⟨cC, iS, h⟩ := u_known (C := C) (T := T) (N := N) (n := n) hts hin hn
      exact ⟨(cC, iS), fun q h2 => by cases h2; exact h⟩
  obtain ⟨f, hf⟩ := Classical.axiomOfChoice hk
  obtain ⟨c1, k1, p1, a1, a2, a3⟩ := ab_arr hi
  obtain ⟨c2, k2, p2, b1, b2, b3⟩ := ab_arr hl
  obtain ⟨comp, c3, k3, d1, d2, d3, d4, d5⟩ := Cond.arrayOver_spec ho
  refine ⟨(fun ci => (f ci).1, fun ci => (f ci).2), (c1, c2, c3), ⟨fun ci q h => hf ci q h, fun k q h => ?_⟩, va_AO.of ho, fun q hq => va_Nw.of rfl (hts _ (ab_Nl_in q hq))⟩
  match k, h with
  | 0, h => cases h; exact ⟨fun n z => ⟨(fun k h => by cases h), k1, a2, p1, a3⟩, a1⟩
  | 1, h => cases h; exact ⟨fun n z => ⟨(fun k h => by cases h), k2, b2, p2, b3⟩, b1⟩
  | 2, h => cases h; exact ⟨fun n z => ⟨(fun k h => by cases h), k3, d3, comp, d4⟩, k3, comp, d3, d4, d1, d5⟩
  | k + 3, h => simp [ab_ty] at h

set_option maxRecDepth 20000 in
theorem ab_stat_ABOVE {s : State} {args : Array Value} (hts : ∀ w ∈ lw_tbl, w.before args s = true) (hgv : (Jvm.Cond.and given_1 narrow_1).before args s = true) {A : Nat → Prop} (hA : ∀ a : Nat, a < s.heap.size → ¬ A a) : ∃ t : Nat, va_T .int t 7 (fun i => .int (([-1, 0, 0, 1, 0, 2, 4] : List Int32).getD i 0)) A s s.heap ∧ va_Z "FountainGivesChange$Square" "ABOVE" "[I" (.ref t) A s s.heap := by
  have hs := flat_of_before _ hgv
  have hel : ∀ j : Nat, j < 7 → (Term.elem (.static "FountainGivesChange$Square" "ABOVE" "[I") (.int (Int32.ofNat j))).eval args s none [] s = some ((fun i => Value.int (([-1, 0, 0, 1, 0, 2, 4] : List Int32).getD i 0)) j) := by
    intro j hj
    match j, hj with
    | 0, _ => exact va_eqt (hs (.eq (.elem (.static "FountainGivesChange$Square" "ABOVE" "[I") (.int 0)) (.int (-1))) (by decide +kernel))
    | 1, _ => exact va_eqt (hs (.eq (.elem (.static "FountainGivesChange$Square" "ABOVE" "[I") (.int 1)) (.int (0))) (by decide +kernel))
    | 2, _ => exact va_eqt (hs (.eq (.elem (.static "FountainGivesChange$Square" "ABOVE" "[I") (.int 2)) (.int (0))) (by decide +kernel))
    | 3, _ => exact va_eqt (hs (.eq (.elem (.static "FountainGivesChange$Square" "ABOVE" "[I") (.int 3)) (.int (1))) (by decide +kernel))
    | 4, _ => exact va_eqt (hs (.eq (.elem (.static "FountainGivesChange$Square" "ABOVE" "[I") (.int 4)) (.int (0))) (by decide +kernel))
    | 5, _ => exact va_eqt (hs (.eq (.elem (.static "FountainGivesChange$Square" "ABOVE" "[I") (.int 5)) (.int (2))) (by decide +kernel))
    | 6, _ => exact va_eqt (hs (.eq (.elem (.static "FountainGivesChange$Square" "ABOVE" "[I") (.int 6)) (.int (4))) (by decide +kernel))
    | j + 7, h => omega
  obtain ⟨t, ht, hT⟩ := va_Tof (tm := (.static "FountainGivesChange$Square" "ABOVE" "[I")) (ty := .int) (N := 7) (f := fun i => .int (([-1, 0, 0, 1, 0, 2, 4] : List Int32).getD i 0)) (A := A) (by decide) (hs (.arrayOf (.static "FountainGivesChange$Square" "ABOVE" "[I") .int) (by decide +kernel)) (va_eqt (hs (.eq (.length (.static "FountainGivesChange$Square" "ABOVE" "[I")) (.int 7)) (by decide +kernel))) hel hA
  exact ⟨t, hT, va_Zref (hts _ (ab_wn_in (i := 2081) (by decide +kernel))) (hts _ (ab_wn_in (i := 1002) (by decide +kernel))) ht hA⟩
set_option maxRecDepth 20000 in
theorem ab_stat_BODIES {s : State} {args : Array Value} (hts : ∀ w ∈ lw_tbl, w.before args s = true) (hgv : (Jvm.Cond.and given_1 narrow_1).before args s = true) {A : Nat → Prop} (hA : ∀ a : Nat, a < s.heap.size → ¬ A a) : ∃ t : Nat, va_T .int t 21 (fun i => .int (([10, 20, 0, 40, 51, 0, 70, 11, 0, 30, 0, 0, 0, 71, 12, 0, 0, 0, 50, 60, 0] : List Int32).getD i 0)) A s s.heap ∧ va_Z "FountainGivesChange$Moves" "BODIES" "[I" (.ref t) A s s.heap := by
  have hs := flat_of_before _ hgv
  have hel : ∀ j : Nat, j < 21 → (Term.elem (.static "FountainGivesChange$Moves" "BODIES" "[I") (.int (Int32.ofNat j))).eval args s none [] s = some ((fun i => Value.int (([10, 20, 0, 40, 51, 0, 70, 11, 0, 30, 0, 0, 0, 71, 12, 0, 0, 0, 50, 60, 0] : List Int32).getD i 0)) j) := by
    intro j hj
    match j, hj with
    | 0, _ => exact va_eqt (hs (.eq (.elem (.static "FountainGivesChange$Moves" "BODIES" "[I") (.int 0)) (.int (10))) (by decide +kernel))
    | 1, _ => exact va_eqt (hs (.eq (.elem (.static "FountainGivesChange$Moves" "BODIES" "[I") (.int 1)) (.int (20))) (by decide +kernel))
    | 2, _ => exact va_eqt (hs (.eq (.elem (.static "FountainGivesChange$Moves" "BODIES" "[I") (.int 2)) (.int (0))) (by decide +kernel))
    | 3, _ => exact va_eqt (hs (.eq (.elem (.static "FountainGivesChange$Moves" "BODIES" "[I") (.int 3)) (.int (40))) (by decide +kernel))
    | 4, _ => exact va_eqt (hs (.eq (.elem (.static "FountainGivesChange$Moves" "BODIES" "[I") (.int 4)) (.int (51))) (by decide +kernel))
    | 5, _ => exact va_eqt (hs (.eq (.elem (.static "FountainGivesChange$Moves" "BODIES" "[I") (.int 5)) (.int (0))) (by decide +kernel))
    | 6, _ => exact va_eqt (hs (.eq (.elem (.static "FountainGivesChange$Moves" "BODIES" "[I") (.int 6)) (.int (70))) (by decide +kernel))
    | 7, _ => exact va_eqt (hs (.eq (.elem (.static "FountainGivesChange$Moves" "BODIES" "[I") (.int 7)) (.int (11))) (by decide +kernel))
    | 8, _ => exact va_eqt (hs (.eq (.elem (.static "FountainGivesChange$Moves" "BODIES" "[I") (.int 8)) (.int (0))) (by decide +kernel))
    | 9, _ => exact va_eqt (hs (.eq (.elem (.static "FountainGivesChange$Moves" "BODIES" "[I") (.int 9)) (.int (30))) (by decide +kernel))
    | 10, _ => exact va_eqt (hs (.eq (.elem (.static "FountainGivesChange$Moves" "BODIES" "[I") (.int 10)) (.int (0))) (by decide +kernel))
    | 11, _ => exact va_eqt (hs (.eq (.elem (.static "FountainGivesChange$Moves" "BODIES" "[I") (.int 11)) (.int (0))) (by decide +kernel))
    | 12, _ => exact va_eqt (hs (.eq (.elem (.static "FountainGivesChange$Moves" "BODIES" "[I") (.int 12)) (.int (0))) (by decide +kernel))
    | 13, _ => exact va_eqt (hs (.eq (.elem (.static "FountainGivesChange$Moves" "BODIES" "[I") (.int 13)) (.int (71))) (by decide +kernel))
    | 14, _ => exact va_eqt (hs (.eq (.elem (.static "FountainGivesChange$Moves" "BODIES" "[I") (.int 14)) (.int (12))) (by decide +kernel))
    | 15, _ => exact va_eqt (hs (.eq (.elem (.static "FountainGivesChange$Moves" "BODIES" "[I") (.int 15)) (.int (0))) (by decide +kernel))
    | 16, _ => exact va_eqt (hs (.eq (.elem (.static "FountainGivesChange$Moves" "BODIES" "[I") (.int 16)) (.int (0))) (by decide +kernel))
    | 17, _ => exact va_eqt (hs (.eq (.elem (.static "FountainGivesChange$Moves" "BODIES" "[I") (.int 17)) (.int (0))) (by decide +kernel))
    | 18, _ => exact va_eqt (hs (.eq (.elem (.static "FountainGivesChange$Moves" "BODIES" "[I") (.int 18)) (.int (50))) (by decide +kernel))
    | 19, _ => exact va_eqt (hs (.eq (.elem (.static "FountainGivesChange$Moves" "BODIES" "[I") (.int 19)) (.int (60))) (by decide +kernel))
    | 20, _ => exact va_eqt (hs (.eq (.elem (.static "FountainGivesChange$Moves" "BODIES" "[I") (.int 20)) (.int (0))) (by decide +kernel))
    | j + 21, h => omega
  obtain ⟨t, ht, hT⟩ := va_Tof (tm := (.static "FountainGivesChange$Moves" "BODIES" "[I")) (ty := .int) (N := 21) (f := fun i => .int (([10, 20, 0, 40, 51, 0, 70, 11, 0, 30, 0, 0, 0, 71, 12, 0, 0, 0, 50, 60, 0] : List Int32).getD i 0)) (A := A) (by decide) (hs (.arrayOf (.static "FountainGivesChange$Moves" "BODIES" "[I") .int) (by decide +kernel)) (va_eqt (hs (.eq (.length (.static "FountainGivesChange$Moves" "BODIES" "[I")) (.int 21)) (by decide +kernel))) hel hA
  exact ⟨t, hT, va_Zref (hts _ (ab_wn_in (i := 4065) (by decide +kernel))) (hts _ (ab_wn_in (i := 1005) (by decide +kernel))) ht hA⟩
theorem ab_inst {s : State} {args : Array Value} (hts : ∀ w ∈ lw_tbl, w.before args s = true) : ∀ (ci : Nat) (q : vw_C), vwCl[ci]? = some q → ∃ n, (Jvm.Cond.instantiable q.1 n).before args s = true := by
  intro ci q hq
  match ci, hq with
  | 0, hq => cases hq; exact ⟨1, hts _ (ab_wn_in (i := 1103) (by decide +kernel))⟩
  | 1, hq => cases hq; exact ⟨5, hts _ (ab_wn_in (i := 1142) (by decide +kernel))⟩
  | 2, hq => cases hq; exact ⟨6, hts _ (ab_wn_in (i := 1113) (by decide +kernel))⟩
  | 3, hq => cases hq; exact ⟨3, hts _ (ab_wn_in (i := 1164) (by decide +kernel))⟩
  | 4, hq => cases hq; exact ⟨15, hts _ (ab_wn_in (i := 1025) (by decide +kernel))⟩
  | 5, hq => cases hq; exact ⟨10, hts _ (ab_wn_in (i := 1017) (by decide +kernel))⟩
  | 6, hq => cases hq; exact ⟨49, hts _ (ab_wn_in (i := 4092) (by decide +kernel))⟩
  | ci + 7, hq => simp at hq
theorem ab_world {s : State} {args : Array Value} (hts : ∀ w ∈ lw_tbl, w.before args s = true) : ∃ (D : va_G) (K : ab_Q), ab_WK D vwCl K (RX3, ab_Nl, ab_Tb, ab_Sl) s :=
  ab_world0 hts (ab_inst hts) (hts _ (ab_wn_in (i := 1099) (by decide +kernel))) (hts _ (ab_wn_in (i := 1181) (by decide +kernel))) (hts _ (ab_wn_in (i := 1101) (by decide +kernel)))
end
section
/-! THE CLAIM OUT OF ONE WALK OF THE LAW'S BODY. Your part is whole_start (and what it stands on); all else here is the same for every law, but numbers. -/
def R_law : String := "FountainGivesChangeLaw"
def lw_P (b : Addr) (xs : List Int32) (args : Array Value) (s : State) : Prop := args = #[.ref b] ∧ s.IntsAt b xs ∧ xs.length ≤ 6 ∧ (Jvm.Cond.and given_1 narrow_1).before args s = true
def lw_Q (_ : Array Value) (s : State) (o : Outcome) (t : State) : Prop := o = .returned (some (.int 1)) ∧ Framed s o t [] 600000 7302250
def lw_Z (below : List Frame) (a : Array Value) (s : State) : State → Prop := fun t => ∃ o, t.status = .running ∧ Ended t below o ∧ lw_Q a s o t
/-- the law's own end, with 1 on the stack, nothing written that was there before, its room as the claim has it -/
theorem lw_ret {p : Program} {l : Launch} {e : Env} {s : State} {m : MethodId} {below : List Frame} {meth : Method} {c : Code} {b : Nat} (hx : p.tables.exec = Jvm.exec) (hb : c.code = code) (hr : meth.sig.returnType = ret) (hlocks : meth.locks = false) {pc : Nat} {H : Heap} {ls : Array Slot} (hdg : decode code pc = .ok (.ireturn, 1)) : W p l e room_1 s m #[Value.ref b] below meth c H [] 600000 7302250 (lw_Z below #[Value.ref b] s) (F0 m pc ls [.int 1]) := by
  intro T hT X
  obtain ⟨fs, hret, hrun, hended, hW, hframe⟩ := X.leave (v := some (.int 1)) (hlocks := hlocks) (fun h => by rw [hr] at h; cases h)
  have hmeth' : T.vm.method? m = some meth := X.method'
  refine ⟨T.setFrames fs, ?_, .returned (some (.int 1)), hrun, hended, rfl, ⟨_, rfl⟩, hW, hframe⟩
  jvm_step X.here [X.here.top, hx, hb, hdg, hmeth', hr, ret, narrow_b1]
  (try refine ⟨rfl, ?_⟩); (try refine ⟨rfl, ?_⟩)
  first | (intro acts; rw [hret _ acts rfl rfl rfl]) | rw [hret _ _ rfl rfl rfl]
  exact Steps.refl _
/-- what holds at the law's entry: the machine, the code, the tables' words (any of lw_tbl by 'hts w (by decide +kernel)'), the script of L ints xs at the cell b, what the Statement gives of the start (any of its parts by flat_of_before) -/
def lw_At (p : Program) (s : State) (m : MethodId) (meth : Method) (c : Code) (b L : Nat) (xs : Nat → Int32) : Prop :=
  p.tables.exec = Jvm.exec ∧ c.code = code ∧ meth.sig.returnType = ret ∧ c.maxLocals = 4 ∧ s.vm.findClass R_law = some m.cls ∧ (∀ w ∈ lw_tbl, w.before #[Value.ref b] s = true) ∧ va_X b L xs s s.heap ∧ b < s.heap.size ∧ meth.locks = false ∧ (Jvm.Cond.and given_1 narrow_1).before #[Value.ref b] s = true
/-- from the law's entry: a run of the machine of worlds that answers 1 is the law's end with 1 -/
theorem ab_start {p : Program} {e : Env} {s : State} {m : MethodId} {below : List Frame} {meth : Method} {c : Code} (l : Launch) {b L : Nat} {xs : Nat → Int32} (C0 : lw_At p s m meth c b L xs) {d f F : Nat} {cs2 : List ab_C} (hL : L < 2 ^ 31) (hd : d ≤ 800)
    (h : ab_fr ab_M ab_G (3, ab_Tb ++ [(List.range L).map xs]) (fun y As cs => ab_run ab_M ab_G ab_Z0 d f y As cs) mL_law F (0, [some (.ref 1000002), none, none, none], [], []) = some (some (.int 1), cs2)) (h1 : cs2.length ≤ 600000) (h2 : ab_sz cs2 ≤ 7302250) :
    W p l e room_1 s m #[Value.ref b] below meth c s.heap [] 0 0 (lw_Z below #[Value.ref b] s) (entryFrame m ([Value.ref b] : List Value).toArray 4) := by
  obtain ⟨hx, hb, hr, hml, hown, hts, hX, hbl, hlocks, hgv⟩ := C0
  have hA : ∀ q : Nat, s.heap.size ≤ q → (fun q : Nat => s.heap.size ≤ q) q := fun _ h => h
  have hnA : ∀ a : Nat, a < s.heap.size → ¬ (fun q : Nat => s.heap.size ≤ q) a := fun a h => Nat.not_le.mpr h
  obtain ⟨D, K, hWK⟩ := ab_world hts
  obtain ⟨t0, hT0, hZ0⟩ := ab_stat_ABOVE hts hgv hnA
  obtain ⟨t1, hT1, hZ1⟩ := ab_stat_BODIES hts hgv hnA
  obtain ⟨ad, a0, a1, a2⟩ : ∃ ad : Nat → Nat, ad 1000000 = t0 ∧ ad 1000001 = t1 ∧ ad 1000002 = b := ⟨fun k => if k = 1000000 then t0 else if k = 1000001 then t1 else b, rfl, rfl, rfl⟩
  have hTT : ab_TT (ab_Tb ++ [(List.range L).map xs]) ab_Sl ad (fun q : Nat => s.heap.size ≤ q) s s.heap := by
    refine ⟨fun j t q => ?_, fun j q r => ?_⟩
    · match j, q with
      | 0, q => cases q; rw [a0]; exact hT0
      | 1, q => cases q; rw [a1]; exact hT1
      | 2, q =>
        cases q
        rw [a2]
        obtain ⟨scr, g1, g2, g3, g4, g5⟩ := hX
        have hlen : ((List.range L).map xs).length = L := by simp
        rw [hlen]
        refine ⟨scr, g1, g2, g3, by omega, by rw [g4], fun j hj => ?_, hnA b hbl⟩
        rw [g5 j hj]
        show some (Value.int (xs j)) = some (Value.int (((List.range L).map xs).getD j 0))
        rw [List.getD_eq_getElem?_getD, List.getElem?_map, List.getElem?_range hj]
        rfl
      | j + 3, q => simp [ab_Tb] at q
    · match j, r with
      | 0, r => cases r; rw [a0]; exact hZ0
      | 1, r => cases r; rw [a1]; exact hZ1
      | j + 2, r => simp [ab_Sl] at r
  rw [lg_entry_eq]
  have hE := ab_h_entry ad [.ref 1000002] (nL := 4) (by decide)
  have hend : ab_En p l e room_1 s m #[Value.ref b] below meth c (lw_Z below #[Value.ref b] s) D vwCl K mL_law ad [] (fun q : Nat => s.heap.size ≤ q) (some (.int 1)) cs2 := by
    intro pc ins len st ad H locs ls hdg hln hv ha1 ha2 hP hD hS
    unfold ab_re at hv
    split at hv
    · split at hv
      · obtain rfl := ab_len (n := 0) rfl hln
        split at hv
        · cases hv
          exact W.widen (k := 600000) (n := 7302250) (by simpa using h1) (Nat.le_trans (Nat.sub_le _ _) h2) (va_forget (fun q hq => hS.2.2 q hq) (lw_ret hx hb hr hlocks hdg))
        · split at hv
          · cases hv
            exact W.widen (k := 600000) (n := 7302250) (by simpa using h1) (Nat.le_trans (Nat.sub_le _ _) h2) (va_forget (fun q hq => hS.2.2 q hq) (lw_ret hx hb hr hlocks hdg))
          · cases hv
        · cases hv
      · cases hv
    · split at hv
      · split at hv <;> cases hv
      · cases hv
    · split at hv
      · split at hv <;> cases hv
      · cases hv
    · cases hv
  have h3 := ab_fr_W (Cq := (RX3, ab_Nl, ab_Tb ++ [(List.range L).map xs], ab_Sl)) (Z := (3, ab_Tb ++ [(List.range L).map xs])) (M := ab_M) (G := ab_G) (Ws := ab_Ws) (Ts := lw_tbl) (D := D) (cl := vwCl) (K := K) (d := d) (md := mL_law) (cs0 := []) (ad0 := ad) (below := below) (l := l) (e := e) (R := room_1) (A := fun q : Nat => s.heap.size ≤ q) hx hb hml hown (fun q => by cases q) hts ab_Ws_tbl (fun ci C T N ty hg => ⟨(ab_cgW ci C T N ty hg).1, fun w hw => (ab_Ws_tbl w ((ab_cgW ci C T N ty hg).2.1 w hw)).1, (ab_cgW ci C T N ty hg).2.2⟩) ab_cqW rfl hWK (fun C T N ty hg => by cases hg)
    (fun pc ins len k ps hat => ⟨(ab_law_at pc ins len k ps hat).1, fun w hw => ⟨(ab_Ws_tbl w ((ab_law_at pc ins len k ps hat).2.1 w hw)).1, (ab_law_at pc ins len k ps hat).2.1 w hw⟩, (ab_law_at pc ins len k ps hat).2.2⟩) ab_M_ok (fun y As cs v cs2 hc => ab_run_le d f y As cs v cs2 hc) (fun y As cs v cs2 my hmy hc => ab_Mt_more (ab_met hmy hc) [(List.range L).map xs]) hA hTT (show cs2.length - 0 ≤ 600000 from h1) (Nat.le_trans (Nat.sub_le _ _) h2) (show d + 1 ≤ 2048 by omega) (show 100 * (d + 1) ≤ 84000 by omega) hend F 0 _ [] [] h (Nat.le_refl _) (Nat.le_refl _) ad s.heap [] _ (fun _ => rfl) (fun _ _ => rfl) (fun k q h => by simp [ab_w] at h) ⟨fun i j p q h => by simp [ab_w] at h, fun k q h => by simp [ab_w] at h⟩ va_S.rf hE
  have hmap : [Value.ref 1000002].map (ab_v ad) = [.ref b] := by
    show [Value.ref (ad 1000002)] = _
    rw [a2]
  rw [hmap] at h3
  exact h3
end
section
/-! runs as a relation: rows for a symbolic walk -/
theorem ab_fr_mono {M : List ab_D} {G : Nat → Option ab_T} {Z : ab_Z} {md : ab_D} {c1 c2 : Nat → List Value → List ab_C → Option (Option Value × List ab_C)} (hc : ∀ y As cs r, c1 y As cs = some r → c2 y As cs = some r) :
    ∀ (f g : Nat) (x : ab_S) (r : Option Value × List ab_C), f ≤ g → ab_fr M G Z c1 md f x = some r → ab_fr M G Z c2 md g x = some r := by
  intro f
  induction f with
  | zero => intro g x r hfg h; obtain ⟨pc, L, st, cs⟩ := x; cases h
  | succ f ih =>
    intro g x r hfg h
    obtain ⟨g, rfl⟩ : ∃ g', g = g' + 1 := ⟨g - 1, by omega⟩
    have hfg : f ≤ g := by omega
    obtain ⟨pc, L, st, cs⟩ := x
    unfold ab_fr at h
    split at h
    · cases h
    · rename_i hat
      split at h
      · cases h
      · rename_i hln
        split at h
        · rename_i hp
          unfold ab_fr
          rw [hat]; dsimp only; rw [if_neg hln, hp]
          exact ih g _ _ hfg h
        · rename_i hp
          split at h
          · rename_i hp2
            unfold ab_fr
            rw [hat]; dsimp only; rw [if_neg hln, hp]; dsimp only; rw [hp2]
            exact ih g _ _ hfg h
          · rename_i hp2
            split at h
            · rename_i hp3
              unfold ab_fr
              rw [hat]; dsimp only; rw [if_neg hln, hp]; dsimp only; rw [hp2]; dsimp only; rw [hp3]
              exact ih g _ _ hfg h
            · rename_i hp3
              split at h
              · rename_i hp4
                unfold ab_fr
                rw [hat]; dsimp only; rw [if_neg hln, hp]; dsimp only; rw [hp2]; dsimp only; rw [hp3]; dsimp only; rw [hp4]
                exact h
              · rename_i hp4
                split at h
                · rename_i hp5
                  split at h
                  · rename_i hq
                    unfold ab_fr
                    rw [hat]; dsimp only; rw [if_neg hln, hp]; dsimp only; rw [hp2]; dsimp only; rw [hp3]; dsimp only; rw [hp4]; dsimp only; rw [hp5]; dsimp only; rw [if_pos hq]
                    exact ih g _ _ hfg h
                  · cases h
                · rename_i hp5
                  split at h
                  · cases h
                  · rename_i hp6
                    split at h
                    · cases h
                    · rename_i hp7
                      split at h
                      · rename_i hq
                        split at h
                        · cases h
                        · rename_i hp8
                          split at h
                          · rename_i hq2
                            unfold ab_fr
                            rw [hat]; dsimp only; rw [if_neg hln, hp]; dsimp only; rw [hp2]; dsimp only; rw [hp3]; dsimp only; rw [hp4]; dsimp only; rw [hp5]; dsimp only; rw [hp6]; dsimp only; rw [hp7]; dsimp only; rw [if_pos hq, hc _ _ _ _ hp8]; dsimp only; rw [if_pos hq2]
                            exact ih g _ _ hfg h
                          · cases h
                      · cases h
theorem ab_run_mono {M : List ab_D} {G : Nat → Option ab_T} {Z : ab_Z} : ∀ (d e f g y : Nat) (As : List Value) (cs : List ab_C) (r : Option Value × List ab_C), d ≤ e → f ≤ g → ab_run M G Z d f y As cs = some r → ab_run M G Z e g y As cs = some r := by
  intro d
  induction d with
  | zero => intro e f g y As cs r _ _ h; cases h
  | succ d ih =>
    intro e f g y As cs r hde hfg h
    obtain ⟨e, rfl⟩ : ∃ e', e = e' + 1 := ⟨e - 1, by omega⟩
    unfold ab_run at h
    split at h
    · cases h
    · rename_i hm
      split at h
      · rename_i hl
        unfold ab_run
        rw [hm]
        dsimp only
        rw [if_pos hl]
        exact ab_fr_mono (fun y As cs r hr => ih e f g y As cs r (by omega) hfg hr) f g _ r hfg h
      · cases h
/-- method y, at these arguments in this world, comes to this answer and world (d: how deep calls go) -/
def Ev (Z : ab_Z) (d y : Nat) (As : List Value) (cs : List ab_C) (r : Option Value × List ab_C) : Prop := ∃ f, ab_run ab_M ab_G Z d f y As cs = some r
/-- a frame's state comes to this answer and world; its calls run over Z0 -/
def Ef (Z : ab_Z) (d : Nat) (md : ab_D) (x : ab_S) (r : Option Value × List ab_C) : Prop := ∃ f F, ab_fr ab_M ab_G Z (fun y As cs => ab_run ab_M ab_G ab_Z0 d f y As cs) md F x = some r
section EF
variable {Z : ab_Z} {d : Nat} {md : ab_D} {pc len : Nat} {L L2 : ab_L} {st st2 : List Value} {cs cs2 : List ab_C} {r : Option Value × List ab_C} {ins : Instr} {k : ab_K} {ps : List Nat}
theorem Ev.up {e y : Nat} {As : List Value} (h : Ev Z d y As cs r) (hd : d ≤ e) : Ev Z e y As cs r := by
  obtain ⟨f, h⟩ := h
  exact ⟨f, ab_run_mono d e f f y As cs r hd (Nat.le_refl _) h⟩
theorem Ef.pu {pc2 : Nat} (h : ab_at md pc = some (ins, len, k, ps)) (hl : ab_ln ins = len ∨ ab_ln ins = 0) (hp : ab_pu ins pc st = some (pc2, st2)) (K : Ef Z d md (pc2, L, st2, cs) r) : Ef Z d md (pc, L, st, cs) r := by
  obtain ⟨f, F, K⟩ := K
  refine ⟨f, F + 1, ?_⟩
  unfold ab_fr
  rw [h]
  dsimp only
  rw [if_neg (not_not_intro hl), hp]
  exact K
theorem Ef.lo (h : ab_at md pc = some (ins, len, k, ps)) (hl : ab_ln ins = len ∨ ab_ln ins = 0) (h0 : ab_pu ins pc st = none) (hp : ab_lo ins L st = some (L2, st2)) (K : Ef Z d md (pc + len, L2, st2, cs) r) : Ef Z d md (pc, L, st, cs) r := by
  obtain ⟨f, F, K⟩ := K
  refine ⟨f, F + 1, ?_⟩
  unfold ab_fr
  rw [h]
  dsimp only
  rw [if_neg (not_not_intro hl), h0]
  dsimp only
  rw [hp]
  exact K
theorem Ef.hp (h : ab_at md pc = some (ins, len, k, ps)) (hl : ab_ln ins = len ∨ ab_ln ins = 0) (h0 : ab_pu ins pc st = none) (h1 : ab_lo ins L st = none) (hp : ab_hp ab_G Z md.2.2.2.2.1 md.2.2.2.2.2.2.1 ins k st cs = some (st2, cs2)) (K : Ef Z d md (pc + len, L, st2, cs2) r) : Ef Z d md (pc, L, st, cs) r := by
  obtain ⟨f, F, K⟩ := K
  refine ⟨f, F + 1, ?_⟩
  unfold ab_fr
  rw [h]
  dsimp only
  rw [if_neg (not_not_intro hl), h0]
  dsimp only
  rw [h1]
  dsimp only
  rw [hp]
  exact K
theorem Ef.re {v : Option Value} (h : ab_at md pc = some (ins, len, k, ps)) (hl : ab_ln ins = len ∨ ab_ln ins = 0) (h0 : ab_pu ins pc st = none) (h1 : ab_lo ins L st = none) (h2 : ab_hp ab_G Z md.2.2.2.2.1 md.2.2.2.2.2.2.1 ins k st cs = none) (hp : ab_re md.2.2.2.1 ins st = some v) : Ef Z d md (pc, L, st, cs) (v, cs) := by
  refine ⟨0, 1, ?_⟩
  unfold ab_fr
  rw [h]
  dsimp only
  rw [if_neg (not_not_intro hl), h0]
  dsimp only
  rw [h1]
  dsimp only
  rw [h2]
  dsimp only
  rw [hp]
theorem Ef.nw {c1 : ab_C} (h : ab_at md pc = some (ins, len, k, ps)) (hl : ab_ln ins = len ∨ ab_ln ins = 0) (h0 : ab_pu ins pc st = none) (h1 : ab_lo ins L st = none) (h2 : ab_hp ab_G Z md.2.2.2.2.1 md.2.2.2.2.2.2.1 ins k st cs = none) (h3 : ab_re md.2.2.2.1 ins st = none) (hp : ab_nw ab_G Z.1 ins k st = some (st2, c1)) (hf : cs.length < 1000000 ∧ (L.all (ab_fo cs.length) && (st2.all (ab_fv cs.length) && cs.all (ab_fc cs.length))) = true)
    (K : Ef Z d md (pc + len, L, .ref cs.length :: st2, cs ++ [c1]) r) : Ef Z d md (pc, L, st, cs) r := by
  obtain ⟨f, F, K⟩ := K
  refine ⟨f, F + 1, ?_⟩
  unfold ab_fr
  rw [h]
  dsimp only
  rw [if_neg (not_not_intro hl), h0]
  dsimp only
  rw [h1]
  dsimp only
  rw [h2]
  dsimp only
  rw [h3]
  dsimp only
  rw [hp]
  dsimp only
  rw [if_pos hf]
  exact K
theorem Ef.ca {y : Nat} {As r0 : List Value} {my : ab_D} {v : Option Value} (h : ab_at md pc = some (ins, len, k, ps)) (hl : ab_ln ins = len ∨ ab_ln ins = 0) (h0 : ab_pu ins pc st = none) (h1 : ab_lo ins L st = none) (h2 : ab_hp ab_G Z md.2.2.2.2.1 md.2.2.2.2.2.2.1 ins k st cs = none) (h3 : ab_re md.2.2.2.1 ins st = none) (h4 : ab_nw ab_G Z.1 ins k st = none) (hca : ab_ca ins k st = some (y, As, r0)) (hmy : ab_M[y]? = some my)
    (hc : ab_sm r0 ≤ 8 ∧ As.length = my.2.2.2.2.2.1 + cond (k.1 == 4) 0 1 ∧ (k.1 = 3 → ab_rv ab_G my.2.2.2.2.1 As cs = true) ∧ (k.1 = 5 ∨ k.1 = 15 → my.2.2.2.2.2.2.1 = true ∧ my.2.2.2.1 = none ∧ ab_rf As = true)) (hv : Ev ab_Z0 d y As cs (v, cs2)) (hf : cs2.length = cs.length ∨ (L.all (ab_fo cs.length) && r0.all (ab_fv cs.length)) = true)
    (K : Ef Z d md (pc + 3, L, v.toList ++ r0, cs2) r) : Ef Z d md (pc, L, st, cs) r := by
  obtain ⟨f, F, K⟩ := K
  obtain ⟨f2, hv⟩ := hv
  refine ⟨f + f2, F + 1, ?_⟩
  have K2 := ab_fr_mono (c2 := fun y As cs => ab_run ab_M ab_G ab_Z0 d (f + f2) y As cs) (fun y As cs r hr => ab_run_mono d d f (f + f2) y As cs r (Nat.le_refl _) (by omega) hr) F F _ r (Nat.le_refl _) K
  have hv2 := ab_run_mono d d f2 (f + f2) y As cs _ (Nat.le_refl _) (by omega) hv
  unfold ab_fr
  rw [h]
  dsimp only
  rw [if_neg (not_not_intro hl), h0]
  dsimp only
  rw [h1]
  dsimp only
  rw [h2]
  dsimp only
  rw [h3]
  dsimp only
  rw [h4]
  dsimp only
  rw [hca]
  dsimp only
  rw [hmy]
  dsimp only
  rw [if_pos hc, hv2]
  dsimp only
  rw [if_pos hf]
  exact K2
theorem Ef.in {y : Nat} {As : List Value} (hmy : ab_M[y]? = some md) (hl : (ab_ag As).length ≤ md.2.2.1) (hL : ab_ag As ++ List.replicate (md.2.2.1 - (ab_ag As).length) none = L) (K : Ef ab_Z0 d md (0, L, [], cs) r) : Ev ab_Z0 (d + 1) y As cs r := by
  obtain ⟨f, F, K⟩ := K
  refine ⟨f + F, ?_⟩
  unfold ab_run
  rw [hmy]
  dsimp only
  rw [if_pos hl, hL]
  exact ab_fr_mono (fun y As cs r hr => ab_run_mono d d f (f + F) y As cs r (Nat.le_refl _) (by omega) hr) F (f + F) _ r (by omega) K
def ab_d4 : DecidableEq (List Int64 ⊕ (List (Option Nat) ⊕ (Nat × List Value))) := inferInstance
def ab_d5 : DecidableEq ab_C := by
  letI := ab_d4
  exact inferInstance
def ab_d6 : DecidableEq (Option Value × List ab_C) := by
  letI := ab_d5
  exact inferInstance
/-- a closed run, by evaluation -/
def ab_isr (d f y : Nat) (As : List Value) (cs : List ab_C) (r : Option Value × List ab_C) : Bool := match ab_run ab_M ab_G ab_Z0 d f y As cs with
  | some q => @decide (q = r) (ab_d6 q r)
  | none => false
theorem Ev.by {f y : Nat} {As : List Value} (h : ab_isr d f y As cs r = true) : Ev ab_Z0 d y As cs r := by
  unfold ab_isr at h
  split at h
  · rename_i q hq
    have h := @of_decide_eq_true _ (ab_d6 q r) h
    subst h
    exact ⟨f, hq⟩
  · cases h
end EF
end
section
/-! the world behind both constructors; by program (wip/tools/fresh.py) -/
def wx : List ab_C := [
  .inr (.inr (.inr (5, [.ref 1, .ref 11, .ref 21, .ref 31, .ref 32, .ref 34, .ref 46, .ref 48, .int 0, .int (-1)]))),
  .inr (.inr (.inr (4, [.ref 2, .ref 3, .ref 4, .ref 5, .ref 6, .ref 7, .ref 8, .ref 9, .ref 10, .int 0, .int 0, .int 0, .int 0, .int 0, .int 1]))),
  .inl [0, 0, 0, 0, 0, 0, 0, 0, 0],
  .inl [0, 0, 0, 0, 0, 0, 0, 0, 0],
  .inl [0, 0, 0, 0, 0, 0, 0, 0, 0],
  .inl [0, 0, 0, 0, 0, 0, 0, 0, 0],
  .inl [0, 0, 0, 0, 0, 0],
  .inl [0, 0, 0, 0, 0, 0],
  .inl [0, 0, 0, 0, 0, 0],
  .inl [0, 0, 0, 0, 0, 0],
  .inl [5, 6, 7, 8, 9, 10, 11, 12],
  .inr (.inr (.inr (4, [.ref 12, .ref 13, .ref 14, .ref 15, .ref 16, .ref 17, .ref 18, .ref 19, .ref 20, .int 0, .int 0, .int 0, .int 0, .int 0, .int 1]))),
  .inl [0, 0, 0, 0, 0, 0, 0, 0, 0],
  .inl [0, 0, 0, 0, 0, 0, 0, 0, 0],
  .inl [0, 0, 0, 0, 0, 0, 0, 0, 0],
  .inl [0, 0, 0, 0, 0, 0, 0, 0, 0],
  .inl [0, 0, 0, 0, 0, 0],
  .inl [0, 0, 0, 0, 0, 0],
  .inl [0, 0, 0, 0, 0, 0],
  .inl [0, 0, 0, 0, 0, 0],
  .inl [5, 6, 7, 8, 9, 10, 11, 12],
  .inr (.inr (.inr (4, [.ref 22, .ref 23, .ref 24, .ref 25, .ref 26, .ref 27, .ref 28, .ref 29, .ref 30, .int 0, .int 0, .int 0, .int 0, .int 0, .int 1]))),
  .inl [0, 0, 0, 0, 0, 0, 0, 0, 0],
  .inl [0, 0, 0, 0, 0, 0, 0, 0, 0],
  .inl [0, 0, 0, 0, 0, 0, 0, 0, 0],
  .inl [0, 0, 0, 0, 0, 0, 0, 0, 0],
  .inl [0, 0, 0, 0, 0, 0],
  .inl [0, 0, 0, 0, 0, 0],
  .inl [0, 0, 0, 0, 0, 0],
  .inl [0, 0, 0, 0, 0, 0],
  .inl [5, 6, 7, 8, 9, 10, 11, 12],
  .inr (.inr (.inl [some 49, some 51, some 53, some 55, some 57, some 59, some 61, some 63])),
  .inr (.inr (.inr (0, [.ref 33]))),
  .inl (List.replicate 100 0),
  .inr (.inr (.inr (2, [.ref 35, .int (-1), .ref 45, .int 0, .int 0, .int 0]))),
  .inr (.inr (.inr (4, [.ref 36, .ref 37, .ref 38, .ref 39, .ref 40, .ref 41, .ref 42, .ref 43, .ref 44, .int 0, .int 0, .int 0, .int 0, .int 0, .int 1]))),
  .inl [0, 0, 0, 0, 0, 0, 0, 0, 0],
  .inl [0, 0, 0, 0, 0, 0, 0, 0, 0],
  .inl [0, 0, 0, 0, 0, 0, 0, 0, 0],
  .inl [0, 0, 0, 0, 0, 0, 0, 0, 0],
  .inl [0, 0, 0, 0, 0, 0],
  .inl [0, 0, 0, 0, 0, 0],
  .inl [0, 0, 0, 0, 0, 0],
  .inl [0, 0, 0, 0, 0, 0],
  .inl [5, 6, 7, 8, 9, 10, 11, 12],
  .inl (List.replicate 160 0),
  .inr (.inr (.inr (1, [.ref 47, .int 0, .int 0, .int 0, .int 0]))),
  .inl (List.replicate 20 0),
  .inl [0, 0, 0, 0, 0, 0, 0, 0],
  .inr (.inr (.inr (3, [.ref 50, .int (-1), .int 0]))),
  .inr (.inl (List.replicate 160 0)),
  .inr (.inr (.inr (3, [.ref 52, .int (-1), .int 0]))),
  .inr (.inl (List.replicate 160 0)),
  .inr (.inr (.inr (3, [.ref 54, .int (-1), .int 0]))),
  .inr (.inl (List.replicate 160 0)),
  .inr (.inr (.inr (3, [.ref 56, .int (-1), .int 0]))),
  .inr (.inl (List.replicate 160 0)),
  .inr (.inr (.inr (3, [.ref 58, .int (-1), .int 0]))),
  .inr (.inl (List.replicate 160 0)),
  .inr (.inr (.inr (3, [.ref 60, .int (-1), .int 0]))),
  .inr (.inl (List.replicate 160 0)),
  .inr (.inr (.inr (3, [.ref 62, .int (-1), .int 0]))),
  .inr (.inl (List.replicate 160 0)),
  .inr (.inr (.inr (3, [.ref 64, .int (-1), .int 0]))),
  .inr (.inl (List.replicate 160 0))]
def w0 : List ab_C := [
  .inr (.inr (.inr (5, [.ref 1, .ref 11, .ref 21, .ref 31, .ref 32, .ref 34, .ref 46, .ref 48, .int 0, .int (-1)]))),
  .inr (.inr (.inr (4, [.ref 2, .ref 3, .ref 4, .ref 5, .ref 6, .ref 7, .ref 8, .ref 9, .ref 10, .int 0, .int 0, .int 0, .int 0, .int 0, .int 1]))),
  .inl [0, 0, 0, 0, 0, 0, 0, 0, 0],
  .inl [0, 0, 0, 0, 0, 0, 0, 0, 0],
  .inl [0, 0, 0, 0, 0, 0, 0, 0, 0],
  .inl [0, 0, 0, 0, 0, 0, 0, 0, 0],
  .inl [0, 0, 0, 0, 0, 0],
  .inl [0, 0, 0, 0, 0, 0],
  .inl [0, 0, 0, 0, 0, 0],
  .inl [0, 0, 0, 0, 0, 0],
  .inl [5, 6, 7, 8, 9, 10, 11, 12],
  .inr (.inr (.inr (4, [.ref 12, .ref 13, .ref 14, .ref 15, .ref 16, .ref 17, .ref 18, .ref 19, .ref 20, .int 0, .int 0, .int 0, .int 0, .int 0, .int 1]))),
  .inl [0, 0, 0, 0, 0, 0, 0, 0, 0],
  .inl [0, 0, 0, 0, 0, 0, 0, 0, 0],
  .inl [0, 0, 0, 0, 0, 0, 0, 0, 0],
  .inl [0, 0, 0, 0, 0, 0, 0, 0, 0],
  .inl [0, 0, 0, 0, 0, 0],
  .inl [0, 0, 0, 0, 0, 0],
  .inl [0, 0, 0, 0, 0, 0],
  .inl [0, 0, 0, 0, 0, 0],
  .inl [5, 6, 7, 8, 9, 10, 11, 12],
  .inr (.inr (.inr (4, [.ref 22, .ref 23, .ref 24, .ref 25, .ref 26, .ref 27, .ref 28, .ref 29, .ref 30, .int 0, .int 0, .int 0, .int 0, .int 0, .int 1]))),
  .inl [0, 0, 0, 0, 0, 0, 0, 0, 0],
  .inl [0, 0, 0, 0, 0, 0, 0, 0, 0],
  .inl [0, 0, 0, 0, 0, 0, 0, 0, 0],
  .inl [0, 0, 0, 0, 0, 0, 0, 0, 0],
  .inl [0, 0, 0, 0, 0, 0],
  .inl [0, 0, 0, 0, 0, 0],
  .inl [0, 0, 0, 0, 0, 0],
  .inl [0, 0, 0, 0, 0, 0],
  .inl [5, 6, 7, 8, 9, 10, 11, 12],
  .inr (.inr (.inl [some 49, some 51, some 53, some 55, some 57, some 59, some 61, some 63])),
  .inr (.inr (.inr (0, [.ref 33]))),
  .inl (List.replicate 100 0),
  .inr (.inr (.inr (2, [.ref 35, .int (-1), .ref 45, .int 0, .int 0, .int 0]))),
  .inr (.inr (.inr (4, [.ref 36, .ref 37, .ref 38, .ref 39, .ref 40, .ref 41, .ref 42, .ref 43, .ref 44, .int 0, .int 0, .int 0, .int 0, .int 0, .int 1]))),
  .inl [0, 0, 0, 0, 0, 0, 0, 0, 0],
  .inl [0, 0, 0, 0, 0, 0, 0, 0, 0],
  .inl [0, 0, 0, 0, 0, 0, 0, 0, 0],
  .inl [0, 0, 0, 0, 0, 0, 0, 0, 0],
  .inl [0, 0, 0, 0, 0, 0],
  .inl [0, 0, 0, 0, 0, 0],
  .inl [0, 0, 0, 0, 0, 0],
  .inl [0, 0, 0, 0, 0, 0],
  .inl [5, 6, 7, 8, 9, 10, 11, 12],
  .inl (List.replicate 160 0),
  .inr (.inr (.inr (1, [.ref 47, .int 0, .int 0, .int 0, .int 0]))),
  .inl (List.replicate 20 0),
  .inl [0, 0, 0, 0, 0, 0, 0, 0],
  .inr (.inr (.inr (3, [.ref 50, .int (-1), .int 0]))),
  .inr (.inl (List.replicate 160 0)),
  .inr (.inr (.inr (3, [.ref 52, .int (-1), .int 0]))),
  .inr (.inl (List.replicate 160 0)),
  .inr (.inr (.inr (3, [.ref 54, .int (-1), .int 0]))),
  .inr (.inl (List.replicate 160 0)),
  .inr (.inr (.inr (3, [.ref 56, .int (-1), .int 0]))),
  .inr (.inl (List.replicate 160 0)),
  .inr (.inr (.inr (3, [.ref 58, .int (-1), .int 0]))),
  .inr (.inl (List.replicate 160 0)),
  .inr (.inr (.inr (3, [.ref 60, .int (-1), .int 0]))),
  .inr (.inl (List.replicate 160 0)),
  .inr (.inr (.inr (3, [.ref 62, .int (-1), .int 0]))),
  .inr (.inl (List.replicate 160 0)),
  .inr (.inr (.inr (3, [.ref 64, .int (-1), .int 0]))),
  .inr (.inl (List.replicate 160 0)),
  .inr (.inr (.inr (6, [.int 0, .int 0, .int 0, .int 0, .int 0, .int 1, .int (-1), .ref 66, .ref 67, .ref 68, .ref 69, .ref 70, .ref 71, .ref 72, .ref 73, .ref 74, .ref 75, .ref 76, .ref 77, .ref 78, .ref 79, .ref 80, .ref 81, .ref 82, .ref 83, .ref 84, .ref 85, .int 0, .int 0, .int 0, .int 0, .int 0, .ref 86, .ref 87, .ref 88, .ref 89, .int 0, .int 0, .ref 90, .ref 91, .ref 92, .ref 93, .int 0, .int 0, .int 0, .int 0, .ref 94, .int 0, .int 0]))),
  .inl [0, 0, 0, 0, 0, 0, 0, 0],
  .inl [0, 0, 0, 0, 0, 0, 0, 0, 0],
  .inl [0, 0, 0, 0, 0, 0, 0, 0, 0],
  .inl [0, 0, 0, 0, 0, 0, 0, 0, 0],
  .inl [0, 0, 0, 0, 0, 0, 0, 0, 0],
  .inl [0, 0, 0, 0, 0, 0],
  .inl [0, 0, 0, 0, 0, 0],
  .inl [0, 0, 0, 0, 0, 0],
  .inl [0, 0, 0, 0, 0, 0],
  .inl [5, 6, 7, 8, 9, 10, 11, 12],
  .inl [0, 0, 0, 0, 0, 0, 0, 0],
  .inl [0, 0, 0, 0, 0, 0, 0, 0],
  .inl [0, 0, 0, 0, 0, 0, 0, 0],
  .inl [0, 0, 0, 0, 0, 0, 0, 0],
  .inr (.inl (List.replicate 1280 0)),
  .inr (.inl (List.replicate 160 0)),
  .inl [112, 105, 101, 99, 101, 32, 0, 112, 101, 114, 115, 111, 110, 32, 0, 99, 111, 115, 116, 32, 0, 104, 97, 115, 32, 0, 98, 97, 99, 107, 32, 0, 103, 114, 101, 101, 100, 121, 0, 98, 101, 115, 116, 0],
  .inl [3, 3, 2, 2, 1, 0, 0],
  .inl [6, 9, 50, 99, 9, 7, 7, 60],
  .inl [0, 0, 0],
  .inl (List.replicate 75 0),
  .inl (List.replicate 75 0),
  .inl (List.replicate 75 0),
  .inl (List.replicate 100 0),
  .inl [0, 0, 0, 0, 0, 0],
  .inl [0, 0, 0, 0, 0, 0],
  .inl (List.replicate 42 0),
  .inl (List.replicate 63 0),
  .inl (List.replicate 20 0)]
theorem ev_X5_init : Ev ab_Z0 3 75 [.ref 0] ([] ++ [.inr (.inr (.inr (5, ab_df tyX5 10)))]) (none, wx) := Ev.by (f := 2000) (by decide +kernel)
theorem ev_X6_init : Ev ab_Z0 3 128 [.ref 65] (wx ++ [.inr (.inr (.inr (6, ab_df tyX6 49)))]) (none, w0) := Ev.by (f := 2000) (by decide +kernel)
end
section
/-! one row an instruction, for symbolic runs; by program -/
section ER
variable {Z : ab_Z} {d : Nat} {md : ab_D} {pc : Nat} {L L2 : ab_L} {st r0 : List Value} {cs cs2 : List ab_C} {r : Option Value × List ab_C} {k : ab_K} {ps : List Nat}
theorem ab_pu_none {ins : Instr} {pc : Nat} (hk : ∀ st, ab_pu ins pc st = (match st with
    | .int y :: r => match ab_i1 ins y with
      | some z => some (pc + 1, z :: r)
      | none => match r with
        | .int x :: r => match ab_i2 ins x y with
          | some z => some (pc + 1, .int z :: r)
          | none => none
        | _ => none
    | _ => none)) (h1 : ∀ y, ab_i1 ins y = none) (h2 : ∀ x y, ab_i2 ins x y = none) (st : List Value) : ab_pu ins pc st = none := by
  rw [hk]
  split
  · rw [h1]
    dsimp only
    split
    · rw [h2]
    · rfl
  · rfl
theorem E_iload {i : Nat} {x : Int32} (h : ab_at md pc = some (.iload i, 2, k, ps)) (hg : ab_lg L i = some (.int x)) (K : Ef Z d md (pc + 2, L, .int x :: st, cs) r) : Ef Z d md (pc, L, st, cs) r :=
  Ef.lo h (Or.inl rfl) (ab_pu_none (fun _ => rfl) (fun _ => rfl) (fun _ _ => rfl) st) (by show (match ab_ld 0 L i with | some v => some (L, v :: st) | none => none) = _; unfold ab_ld; rw [hg] <;> rfl) K
theorem E_iload_n {i : Fin 4} {x : Int32} (h : ab_at md pc = some (.iload_n i, 1, k, ps)) (hg : ab_lg L i = some (.int x)) (K : Ef Z d md (pc + 1, L, .int x :: st, cs) r) : Ef Z d md (pc, L, st, cs) r :=
  Ef.lo h (Or.inl rfl) (ab_pu_none (fun _ => rfl) (fun _ => rfl) (fun _ _ => rfl) st) (by show (match ab_ld 0 L i.val with | some v => some (L, v :: st) | none => none) = _; unfold ab_ld; rw [hg] <;> rfl) K
theorem E_lload {i : Nat} {x : Int64} (h : ab_at md pc = some (.lload i, 2, k, ps)) (hg : ab_lg L i = some (.long x)) (K : Ef Z d md (pc + 2, L, .long x :: st, cs) r) : Ef Z d md (pc, L, st, cs) r :=
  Ef.lo h (Or.inl rfl) (ab_pu_none (fun _ => rfl) (fun _ => rfl) (fun _ _ => rfl) st) (by show (match ab_ld 1 L i with | some v => some (L, v :: st) | none => none) = _; unfold ab_ld; rw [hg] <;> rfl) K
theorem E_lload_n {i : Fin 4} {x : Int64} (h : ab_at md pc = some (.lload_n i, 1, k, ps)) (hg : ab_lg L i = some (.long x)) (K : Ef Z d md (pc + 1, L, .long x :: st, cs) r) : Ef Z d md (pc, L, st, cs) r :=
  Ef.lo h (Or.inl rfl) (ab_pu_none (fun _ => rfl) (fun _ => rfl) (fun _ _ => rfl) st) (by show (match ab_ld 1 L i.val with | some v => some (L, v :: st) | none => none) = _; unfold ab_ld; rw [hg] <;> rfl) K
theorem E_aload {i : Nat} {x : Nat} (h : ab_at md pc = some (.aload i, 2, k, ps)) (hg : ab_lg L i = some (.ref x)) (K : Ef Z d md (pc + 2, L, .ref x :: st, cs) r) : Ef Z d md (pc, L, st, cs) r :=
  Ef.lo h (Or.inl rfl) (ab_pu_none (fun _ => rfl) (fun _ => rfl) (fun _ _ => rfl) st) (by show (match ab_ld 2 L i with | some v => some (L, v :: st) | none => none) = _; unfold ab_ld; rw [hg] <;> rfl) K
theorem E_aload_n {i : Fin 4} {x : Nat} (h : ab_at md pc = some (.aload_n i, 1, k, ps)) (hg : ab_lg L i = some (.ref x)) (K : Ef Z d md (pc + 1, L, .ref x :: st, cs) r) : Ef Z d md (pc, L, st, cs) r :=
  Ef.lo h (Or.inl rfl) (ab_pu_none (fun _ => rfl) (fun _ => rfl) (fun _ _ => rfl) st) (by show (match ab_ld 2 L i.val with | some v => some (L, v :: st) | none => none) = _; unfold ab_ld; rw [hg] <;> rfl) K
theorem E_istore {i : Nat} {x : Int32} (h : ab_at md pc = some (.istore i, 2, k, ps)) (hs : ab_l1 L i (.int x) = some L2) (K : Ef Z d md (pc + 2, L2, st, cs) r) : Ef Z d md (pc, L, .int x :: st, cs) r :=
  Ef.lo h (Or.inl rfl) (ab_pu_none (fun _ => rfl) (fun _ => rfl) (fun _ _ => rfl) _) (by show (match ab_so 0 L i (.int x) with | some L2 => some (L2, st) | none => none) = _; rw [show ab_so 0 L i (.int x) = ab_l1 L i (.int x) from rfl, hs] <;> rfl) K
theorem E_istore_n {i : Fin 4} {x : Int32} (h : ab_at md pc = some (.istore_n i, 1, k, ps)) (hs : ab_l1 L i (.int x) = some L2) (K : Ef Z d md (pc + 1, L2, st, cs) r) : Ef Z d md (pc, L, .int x :: st, cs) r :=
  Ef.lo h (Or.inl rfl) (ab_pu_none (fun _ => rfl) (fun _ => rfl) (fun _ _ => rfl) _) (by show (match ab_so 0 L i.val (.int x) with | some L2 => some (L2, st) | none => none) = _; rw [show ab_so 0 L i.val (.int x) = ab_l1 L i.val (.int x) from rfl, hs] <;> rfl) K
theorem E_lstore {i : Nat} {x : Int64} (h : ab_at md pc = some (.lstore i, 2, k, ps)) (hs : ab_l2 L i (.long x) = some L2) (K : Ef Z d md (pc + 2, L2, st, cs) r) : Ef Z d md (pc, L, .long x :: st, cs) r :=
  Ef.lo h (Or.inl rfl) (ab_pu_none (fun _ => rfl) (fun _ => rfl) (fun _ _ => rfl) _) (by show (match ab_so 1 L i (.long x) with | some L2 => some (L2, st) | none => none) = _; rw [show ab_so 1 L i (.long x) = ab_l2 L i (.long x) from rfl, hs] <;> rfl) K
theorem E_lstore_n {i : Fin 4} {x : Int64} (h : ab_at md pc = some (.lstore_n i, 1, k, ps)) (hs : ab_l2 L i (.long x) = some L2) (K : Ef Z d md (pc + 1, L2, st, cs) r) : Ef Z d md (pc, L, .long x :: st, cs) r :=
  Ef.lo h (Or.inl rfl) (ab_pu_none (fun _ => rfl) (fun _ => rfl) (fun _ _ => rfl) _) (by show (match ab_so 1 L i.val (.long x) with | some L2 => some (L2, st) | none => none) = _; rw [show ab_so 1 L i.val (.long x) = ab_l2 L i.val (.long x) from rfl, hs] <;> rfl) K
theorem E_astore {i : Nat} {x : Nat} (h : ab_at md pc = some (.astore i, 2, k, ps)) (hs : ab_l1 L i (.ref x) = some L2) (K : Ef Z d md (pc + 2, L2, st, cs) r) : Ef Z d md (pc, L, .ref x :: st, cs) r :=
  Ef.lo h (Or.inl rfl) (ab_pu_none (fun _ => rfl) (fun _ => rfl) (fun _ _ => rfl) _) (by show (match ab_so 2 L i (.ref x) with | some L2 => some (L2, st) | none => none) = _; rw [show ab_so 2 L i (.ref x) = ab_l1 L i (.ref x) from rfl, hs] <;> rfl) K
theorem E_astore_n {i : Fin 4} {x : Nat} (h : ab_at md pc = some (.astore_n i, 1, k, ps)) (hs : ab_l1 L i (.ref x) = some L2) (K : Ef Z d md (pc + 1, L2, st, cs) r) : Ef Z d md (pc, L, .ref x :: st, cs) r :=
  Ef.lo h (Or.inl rfl) (ab_pu_none (fun _ => rfl) (fun _ => rfl) (fun _ _ => rfl) _) (by show (match ab_so 2 L i.val (.ref x) with | some L2 => some (L2, st) | none => none) = _; rw [show ab_so 2 L i.val (.ref x) = ab_l1 L i.val (.ref x) from rfl, hs] <;> rfl) K
theorem E_iinc {i : Nat} {n : Int} {x y : Int32} (h : ab_at md pc = some (.iinc i n, 3, k, ps)) (hg : ab_lg L i = some (.int x)) (hy : x + Int32.ofInt n = y) (hs : ab_l1 L i (.int y) = some L2) (K : Ef Z d md (pc + 3, L2, st, cs) r) : Ef Z d md (pc, L, st, cs) r :=
  Ef.lo h (Or.inl rfl) (ab_pu_none (fun _ => rfl) (fun _ => rfl) (fun _ _ => rfl) st) (by unfold ab_lo ab_lk; dsimp only; rw [hg]; dsimp only; rw [hy, hs]) K
theorem E_iconst {n : Int} {x : Int32} (h : ab_at md pc = some (.iconst n, 1, k, ps)) (hx : Int32.ofInt n = x) (K : Ef Z d md (pc + 1, L, .int x :: st, cs) r) : Ef Z d md (pc, L, st, cs) r :=
  Ef.pu h (Or.inl rfl) (by rw [← hx]; rfl) K
theorem E_bipush {n : Int} {x : Int32} (h : ab_at md pc = some (.bipush n, 2, k, ps)) (hx : (Int8.ofInt n).toInt32 = x) (K : Ef Z d md (pc + 2, L, .int x :: st, cs) r) : Ef Z d md (pc, L, st, cs) r :=
  Ef.pu h (Or.inl rfl) (by rw [← hx]; rfl) K
theorem E_sipush {n : Int} {x : Int32} (h : ab_at md pc = some (.sipush n, 3, k, ps)) (hx : (Int16.ofInt n).toInt32 = x) (K : Ef Z d md (pc + 3, L, .int x :: st, cs) r) : Ef Z d md (pc, L, st, cs) r :=
  Ef.pu h (Or.inl rfl) (by rw [← hx]; rfl) K
theorem E_lconst {n : Fin 2} {x : Int64} (h : ab_at md pc = some (.lconst n, 1, k, ps)) (hx : Int64.ofNat n = x) (K : Ef Z d md (pc + 1, L, .long x :: st, cs) r) : Ef Z d md (pc, L, st, cs) r :=
  Ef.pu h (Or.inl rfl) (by rw [← hx]; rfl) K
theorem E_dup {v : Value} (h : ab_at md pc = some (.dup, 1, k, ps)) (hv : v.category = 1) (K : Ef Z d md (pc + 1, L, v :: v :: r0, cs) r) : Ef Z d md (pc, L, v :: r0, cs) r :=
  Ef.pu h (Or.inl rfl) (by unfold ab_pu; dsimp only; rw [if_pos hv]) K
theorem E_pop {v : Value} (h : ab_at md pc = some (.pop, 1, k, ps)) (hv : v.category = 1) (K : Ef Z d md (pc + 1, L, r0, cs) r) : Ef Z d md (pc, L, v :: r0, cs) r :=
  Ef.pu h (Or.inl rfl) (by unfold ab_pu; dsimp only; rw [if_pos hv]) K
theorem E_dup2 {v w : Value} (h : ab_at md pc = some (.dup2, 1, k, ps)) (hv : v.category = 1 ∧ w.category = 1) (K : Ef Z d md (pc + 1, L, v :: w :: v :: w :: r0, cs) r) : Ef Z d md (pc, L, v :: w :: r0, cs) r :=
  Ef.pu h (Or.inl rfl) (by unfold ab_pu; dsimp only; rw [if_pos hv]) K
theorem E_dup_x1 {v w : Value} (h : ab_at md pc = some (.dup_x1, 1, k, ps)) (hv : v.category = 1 ∧ w.category = 1) (K : Ef Z d md (pc + 1, L, v :: w :: v :: r0, cs) r) : Ef Z d md (pc, L, v :: w :: r0, cs) r :=
  Ef.pu h (Or.inl rfl) (by unfold ab_pu; dsimp only; rw [if_pos hv]) K
theorem E_goto {off : Int} {t : Nat} (h : ab_at md pc = some (.goto off, 3, k, ps)) (ht : ab_tg pc off = some t) (K : Ef Z d md (t, L, st, cs) r) : Ef Z d md (pc, L, st, cs) r :=
  Ef.pu h (Or.inl rfl) (by unfold ab_pu; dsimp only; rw [ht]) K
theorem E_if {c : ClassFile.Cond} {off : Int} {t : Nat} {x : Int32} {b : Bool} (h : ab_at md pc = some (.ifCond c off, 3, k, ps)) (ht : ab_tg pc off = some t) (hb : ab_cn c x 0 = b) (K : Ef Z d md (cond b t (pc + 3), L, r0, cs) r) : Ef Z d md (pc, L, .int x :: r0, cs) r :=
  Ef.pu h (Or.inl rfl) (by unfold ab_pu; dsimp only; rw [ht, hb]) K
theorem E_ic {c : ClassFile.Cond} {off : Int} {t : Nat} {x y : Int32} {b : Bool} (h : ab_at md pc = some (.if_icmp c off, 3, k, ps)) (ht : ab_tg pc off = some t) (hb : ab_cn c x y = b) (K : Ef Z d md (cond b t (pc + 3), L, r0, cs) r) : Ef Z d md (pc, L, .int y :: .int x :: r0, cs) r :=
  Ef.pu h (Or.inl rfl) (by unfold ab_pu; dsimp only; rw [ht, hb]) K
theorem E_tsIn {dflt lo hi off : Int} {offs : Array Int} {len t : Nat} {x : Int32} (h : ab_at md pc = some (.tableswitch dflt lo hi offs, len, k, ps)) (hn : ¬ (x.toInt < lo ∨ hi < x.toInt)) (ho : offs[(x.toInt - lo).toNat]? = some off) (ht : ab_tg pc off = some t) (K : Ef Z d md (t, L, r0, cs) r) : Ef Z d md (pc, L, .int x :: r0, cs) r :=
  Ef.pu h (Or.inr rfl) (by unfold ab_pu; dsimp only; rw [if_neg hn, ho]; dsimp only; rw [ht]) K
theorem E_tsOut {dflt lo hi : Int} {offs : Array Int} {len t : Nat} {x : Int32} (h : ab_at md pc = some (.tableswitch dflt lo hi offs, len, k, ps)) (hn : x.toInt < lo ∨ hi < x.toInt) (ht : ab_tg pc dflt = some t) (K : Ef Z d md (t, L, r0, cs) r) : Ef Z d md (pc, L, .int x :: r0, cs) r :=
  Ef.pu h (Or.inr rfl) (by unfold ab_pu; dsimp only; rw [if_pos hn, ht]) K
theorem E_ls {dflt off : Int} {qs : Array (Int × Int)} {len t : Nat} {x : Int32} (h : ab_at md pc = some (.lookupswitch dflt qs, len, k, ps)) (hs : (qs.toList.zip (qs.toList.drop 1)).all (fun (a, next) => a.1 < next.1) = true) (ho : Op.lookupswitch.offset qs.toList dflt x.toInt = off) (ht : ab_tg pc off = some t) (K : Ef Z d md (t, L, r0, cs) r) : Ef Z d md (pc, L, .int x :: r0, cs) r :=
  Ef.pu h (Or.inr rfl) (by unfold ab_pu; dsimp only; rw [if_pos hs, ho, ht]) K
theorem E_l2i {x : Int64} {z : Int32} (h : ab_at md pc = some (.l2i, 1, k, ps)) (hz : x.toInt32 = z) (K : Ef Z d md (pc + 1, L, .int z :: r0, cs) r) : Ef Z d md (pc, L, .long x :: r0, cs) r :=
  Ef.pu h (Or.inl rfl) (by rw [← hz]; rfl) K
theorem E_lshl {x z : Int64} {y : Int32} (h : ab_at md pc = some (.lshl, 1, k, ps)) (hz : x <<< (y.toInt64 &&& 63) = z) (K : Ef Z d md (pc + 1, L, .long z :: r0, cs) r) : Ef Z d md (pc, L, .int y :: .long x :: r0, cs) r :=
  Ef.pu h (Or.inl rfl) (by rw [← hz]; rfl) K
theorem E_lor {x y z : Int64} (h : ab_at md pc = some (.lor, 1, k, ps)) (hz : x ||| y = z) (K : Ef Z d md (pc + 1, L, .long z :: r0, cs) r) : Ef Z d md (pc, L, .long y :: .long x :: r0, cs) r :=
  Ef.pu h (Or.inl rfl) (by rw [← hz]; rfl) K
theorem E_land {x y z : Int64} (h : ab_at md pc = some (.land, 1, k, ps)) (hz : x &&& y = z) (K : Ef Z d md (pc + 1, L, .long z :: r0, cs) r) : Ef Z d md (pc, L, .long y :: .long x :: r0, cs) r :=
  Ef.pu h (Or.inl rfl) (by rw [← hz]; rfl) K
theorem E_lcmp {x y : Int64} {z : Int32} (h : ab_at md pc = some (.lcmp, 1, k, ps)) (hz : lg_cmp x y = z) (K : Ef Z d md (pc + 1, L, .int z :: r0, cs) r) : Ef Z d md (pc, L, .long y :: .long x :: r0, cs) r :=
  Ef.pu h (Or.inl rfl) (by rw [← hz]; rfl) K
theorem E_iadd {x y z : Int32} (h : ab_at md pc = some (.iadd, 1, k, ps)) (hz : x + y = z) (K : Ef Z d md (pc + 1, L, .int z :: r0, cs) r) : Ef Z d md (pc, L, .int y :: .int x :: r0, cs) r :=
  Ef.pu h (Or.inl rfl) (by rw [← hz]; rfl) K
theorem E_isub {x y z : Int32} (h : ab_at md pc = some (.isub, 1, k, ps)) (hz : x - y = z) (K : Ef Z d md (pc + 1, L, .int z :: r0, cs) r) : Ef Z d md (pc, L, .int y :: .int x :: r0, cs) r :=
  Ef.pu h (Or.inl rfl) (by rw [← hz]; rfl) K
theorem E_imul {x y z : Int32} (h : ab_at md pc = some (.imul, 1, k, ps)) (hz : x * y = z) (K : Ef Z d md (pc + 1, L, .int z :: r0, cs) r) : Ef Z d md (pc, L, .int y :: .int x :: r0, cs) r :=
  Ef.pu h (Or.inl rfl) (by rw [← hz]; rfl) K
theorem E_iand {x y z : Int32} (h : ab_at md pc = some (.iand, 1, k, ps)) (hz : x &&& y = z) (K : Ef Z d md (pc + 1, L, .int z :: r0, cs) r) : Ef Z d md (pc, L, .int y :: .int x :: r0, cs) r :=
  Ef.pu h (Or.inl rfl) (by rw [← hz]; rfl) K
theorem E_ior {x y z : Int32} (h : ab_at md pc = some (.ior, 1, k, ps)) (hz : x ||| y = z) (K : Ef Z d md (pc + 1, L, .int z :: r0, cs) r) : Ef Z d md (pc, L, .int y :: .int x :: r0, cs) r :=
  Ef.pu h (Or.inl rfl) (by rw [← hz]; rfl) K
theorem E_ixor {x y z : Int32} (h : ab_at md pc = some (.ixor, 1, k, ps)) (hz : x ^^^ y = z) (K : Ef Z d md (pc + 1, L, .int z :: r0, cs) r) : Ef Z d md (pc, L, .int y :: .int x :: r0, cs) r :=
  Ef.pu h (Or.inl rfl) (by rw [← hz]; rfl) K
theorem E_ishl {x y z : Int32} (h : ab_at md pc = some (.ishl, 1, k, ps)) (hz : x <<< (y &&& 31) = z) (K : Ef Z d md (pc + 1, L, .int z :: r0, cs) r) : Ef Z d md (pc, L, .int y :: .int x :: r0, cs) r :=
  Ef.pu h (Or.inl rfl) (by rw [← hz]; rfl) K
theorem E_ishr {x y z : Int32} (h : ab_at md pc = some (.ishr, 1, k, ps)) (hz : x >>> (y &&& 31) = z) (K : Ef Z d md (pc + 1, L, .int z :: r0, cs) r) : Ef Z d md (pc, L, .int y :: .int x :: r0, cs) r :=
  Ef.pu h (Or.inl rfl) (by rw [← hz]; rfl) K
theorem E_iushr {x y z : Int32} (h : ab_at md pc = some (.iushr, 1, k, ps)) (hz : (x.toUInt32 >>> (y.toUInt32 &&& Int32.toUInt32 31)).toInt32 = z) (K : Ef Z d md (pc + 1, L, .int z :: r0, cs) r) : Ef Z d md (pc, L, .int y :: .int x :: r0, cs) r :=
  Ef.pu h (Or.inl rfl) (by rw [← hz]; rfl) K
theorem E_idiv {x y z : Int32} (h : ab_at md pc = some (.idiv, 1, k, ps)) (hn : ¬ y = 0) (hz : x / y = z) (K : Ef Z d md (pc + 1, L, .int z :: r0, cs) r) : Ef Z d md (pc, L, .int y :: .int x :: r0, cs) r :=
  Ef.pu h (Or.inl rfl) (by rw [← hz]; show (match ab_i2 .idiv x y with | some z => some (pc + 1, Value.int z :: r0) | none => none) = _; unfold ab_i2; dsimp only; rw [if_neg hn]) K
theorem E_irem {x y z : Int32} (h : ab_at md pc = some (.irem, 1, k, ps)) (hn : ¬ y = 0) (hz : x - x / y * y = z) (K : Ef Z d md (pc + 1, L, .int z :: r0, cs) r) : Ef Z d md (pc, L, .int y :: .int x :: r0, cs) r :=
  Ef.pu h (Or.inl rfl) (by rw [← hz]; show (match ab_i2 .irem x y with | some z => some (pc + 1, Value.int z :: r0) | none => none) = _; unfold ab_i2; dsimp only; rw [if_neg hn]) K
theorem E_ineg {x : Int32} {z : Int32} (h : ab_at md pc = some (.ineg, 1, k, ps)) (hz : -x = z) (K : Ef Z d md (pc + 1, L, .int z :: r0, cs) r) : Ef Z d md (pc, L, .int x :: r0, cs) r :=
  Ef.pu h (Or.inl rfl) (by rw [← hz]; rfl) K
theorem E_i2l {x : Int32} {z : Int64} (h : ab_at md pc = some (.i2l, 1, k, ps)) (hz : x.toInt64 = z) (K : Ef Z d md (pc + 1, L, .long z :: r0, cs) r) : Ef Z d md (pc, L, .int x :: r0, cs) r :=
  Ef.pu h (Or.inl rfl) (by rw [← hz]; rfl) K
theorem E_i2b {x : Int32} {z : Int32} (h : ab_at md pc = some (.i2b, 1, k, ps)) (hz : x.toInt8.toInt32 = z) (K : Ef Z d md (pc + 1, L, .int z :: r0, cs) r) : Ef Z d md (pc, L, .int x :: r0, cs) r :=
  Ef.pu h (Or.inl rfl) (by rw [← hz]; rfl) K
theorem E_i2s {x : Int32} {z : Int32} (h : ab_at md pc = some (.i2s, 1, k, ps)) (hz : x.toInt16.toInt32 = z) (K : Ef Z d md (pc + 1, L, .int z :: r0, cs) r) : Ef Z d md (pc, L, .int x :: r0, cs) r :=
  Ef.pu h (Or.inl rfl) (by rw [← hz]; rfl) K
theorem E_getfield {i ci f a N : Nat} {C : String} {T : u_T} {ty : Nat → FieldType} {fs : List Value} {v : Value} (h : ab_at md pc = some (.getfield i, 3, (1, ci, f), ps)) (hc : cs[a]? = some (.inr (.inr (.inr (ci, fs))))) (hg : ab_G ci = some (C, T, N, ty)) (hN : f < N) (hv : fs[f]? = some v) (K : Ef Z d md (pc + 3, L, v :: r0, cs) r) : Ef Z d md (pc, L, .ref a :: r0, cs) r :=
  Ef.hp h (Or.inl rfl) rfl rfl (by show ab_gf ab_G ci f (.ref a :: r0) cs = _; unfold ab_gf; dsimp only; rw [hc, hg]; dsimp only; rw [if_pos ⟨rfl, hN⟩, hv]) K
theorem E_putfield {i ci f a N : Nat} {C : String} {T : u_T} {ty : Nat → FieldType} {fs : List Value} {v : Value} (h : ab_at md pc = some (.putfield i, 3, (1, ci, f), ps)) (hc : cs[a]? = some (.inr (.inr (.inr (ci, fs))))) (hg : ab_G ci = some (C, T, N, ty)) (hN : f < N) (hl : f < fs.length) (ht : ab_ft (ty f) v = true) (hfin : (T f).2.2.2 = false) (hp0 : ab_pu (.putfield i) pc (v :: .ref a :: r0) = none) (h2 : cs.set a (.inr (.inr (.inr (ci, fs.set f v)))) = cs2) (K : Ef Z d md (pc + 3, L, r0, cs2) r) : Ef Z d md (pc, L, v :: .ref a :: r0, cs) r :=
  Ef.hp h (Or.inl rfl) hp0 rfl (by show ab_pf ab_G _ _ ci f (v :: .ref a :: r0) cs = _; unfold ab_pf; dsimp only; rw [hc, hg]; dsimp only; rw [if_pos ⟨rfl, hN, hl, ht, fun q => by rw [hfin] at q; cases q⟩, h2]) K
theorem E_iaload {a j : Nat} {i x : Int32} {l : List Int32} (h : ab_at md pc = some (.iaload, 1, k, ps)) (hc : cs[a]? = some (.inl l)) (hi : ¬ i < 0) (hj : i.toNatClampNeg = j) (hx : l[j]? = some x) (K : Ef Z d md (pc + 1, L, .int x :: r0, cs) r) : Ef Z d md (pc, L, .int i :: .ref a :: r0, cs) r :=
  Ef.hp h (Or.inl rfl) rfl rfl (by
    show ab_ia Z.2 (.int i :: .ref a :: r0) cs = some (.int x :: r0, cs)
    unfold ab_ia
    dsimp only
    rw [hc]
    dsimp only
    rw [hj, if_neg (not_or.mpr ⟨hi, Nat.not_le.mpr (List.getElem?_eq_some_iff.mp hx).1⟩), List.getD_eq_getElem?_getD, hx]
    rfl) K
theorem E_tload {a j t : Nat} {i x : Int32} {l : List Int32} (h : ab_at md pc = some (.iaload, 1, k, ps)) (hc : cs[a]? = none) (ha : a - 1000000 = t) (ha2 : ¬ a < 1000000) (ht : Z.2[t]? = some l) (hi : ¬ i < 0) (hj : i.toNatClampNeg = j) (hx : l[j]? = some x) (K : Ef Z d md (pc + 1, L, .int x :: r0, cs) r) : Ef Z d md (pc, L, .int i :: .ref a :: r0, cs) r :=
  Ef.hp h (Or.inl rfl) rfl rfl (by
    show ab_ia Z.2 (.int i :: .ref a :: r0) cs = some (.int x :: r0, cs)
    unfold ab_ia
    dsimp only
    rw [hc]
    dsimp only
    rw [ha, ht]
    dsimp only
    rw [hj, if_neg (not_or.mpr ⟨ha2, not_or.mpr ⟨hi, Nat.not_le.mpr (List.getElem?_eq_some_iff.mp hx).1⟩⟩), List.getD_eq_getElem?_getD, hx]
    rfl) K
theorem E_tlen {a t : Nat} {n : Int32} {l : List Int32} (h : ab_at md pc = some (.arraylength, 1, k, ps)) (hc : cs[a]? = none) (ha : a - 1000000 = t) (ha2 : ¬ a < 1000000) (ht : Z.2[t]? = some l) (hn : Int32.ofNat l.length = n) (K : Ef Z d md (pc + 1, L, .int n :: r0, cs) r) : Ef Z d md (pc, L, .ref a :: r0, cs) r :=
  Ef.hp h (Or.inl rfl) rfl rfl (by
    show ab_al Z.2 (.ref a :: r0) cs = some (.int n :: r0, cs)
    unfold ab_al
    dsimp only
    rw [hc]
    dsimp only
    rw [ha, ht]
    dsimp only
    rw [if_neg ha2, hn]) K
theorem E_aaload {a j b : Nat} {i : Int32} {l : List (Option Nat)} (h : ab_at md pc = some (.aaload, 1, k, ps)) (hc : cs[a]? = some (.inr (.inr (.inl l)))) (hi : ¬ i < 0) (hj : i.toNatClampNeg = j) (hx : l[j]? = some (some b)) (K : Ef Z d md (pc + 1, L, .ref b :: r0, cs) r) : Ef Z d md (pc, L, .int i :: .ref a :: r0, cs) r :=
  Ef.hp h (Or.inl rfl) rfl rfl (by
    show ab_aa (.int i :: .ref a :: r0) cs = some (.ref b :: r0, cs)
    unfold ab_aa
    dsimp only
    rw [hc]
    dsimp only
    rw [hj, if_neg (not_or.mpr ⟨hi, Nat.not_le.mpr (List.getElem?_eq_some_iff.mp hx).1⟩), List.getD_eq_getElem?_getD, hx]
    rfl) K
theorem E_laload {a j : Nat} {i : Int32} {x : Int64} {l : List Int64} (h : ab_at md pc = some (.laload, 1, k, ps)) (hc : cs[a]? = some (.inr (.inl l))) (hi : ¬ i < 0) (hj : i.toNatClampNeg = j) (hx : l[j]? = some x) (K : Ef Z d md (pc + 1, L, .long x :: r0, cs) r) : Ef Z d md (pc, L, .int i :: .ref a :: r0, cs) r :=
  Ef.hp h (Or.inl rfl) rfl rfl (by
    show ab_la (.int i :: .ref a :: r0) cs = some (.long x :: r0, cs)
    unfold ab_la
    dsimp only
    rw [hc]
    dsimp only
    rw [hj, if_neg (not_or.mpr ⟨hi, Nat.not_le.mpr (List.getElem?_eq_some_iff.mp hx).1⟩), List.getD_eq_getElem?_getD, hx]
    rfl) K
theorem E_iastore {a j : Nat} {i x : Int32} {l : List Int32} (h : ab_at md pc = some (.iastore, 1, k, ps)) (hc : cs[a]? = some (.inl l)) (hi : ¬ i < 0) (hj : i.toNatClampNeg = j) (hl : j < l.length) (h2 : cs.set a (.inl (l.set j x)) = cs2) (K : Ef Z d md (pc + 1, L, r0, cs2) r) : Ef Z d md (pc, L, .int x :: .int i :: .ref a :: r0, cs) r :=
  Ef.hp h (Or.inl rfl) rfl rfl (by
    show ab_is (.int x :: .int i :: .ref a :: r0) cs = some (r0, cs2)
    unfold ab_is
    dsimp only
    rw [hc]
    dsimp only
    rw [hj, if_neg (not_or.mpr ⟨hi, Nat.not_le.mpr hl⟩), h2]) K
theorem E_lastore {a j : Nat} {i : Int32} {x : Int64} {l : List Int64} (h : ab_at md pc = some (.lastore, 1, k, ps)) (hc : cs[a]? = some (.inr (.inl l))) (hi : ¬ i < 0) (hj : i.toNatClampNeg = j) (hl : j < l.length) (h2 : cs.set a (.inr (.inl (l.set j x))) = cs2) (K : Ef Z d md (pc + 1, L, r0, cs2) r) : Ef Z d md (pc, L, .long x :: .int i :: .ref a :: r0, cs) r :=
  Ef.hp h (Or.inl rfl) rfl rfl (by
    show ab_lst (.long x :: .int i :: .ref a :: r0) cs = some (r0, cs2)
    unfold ab_lst
    dsimp only
    rw [hc]
    dsimp only
    rw [hj, if_neg (not_or.mpr ⟨hi, Nat.not_le.mpr hl⟩), h2]) K
theorem E_max {i a b : Nat} {x y z : Int32} (h : ab_at md pc = some (.invokestatic i, 3, (7, a, b), ps)) (hs : ab_sm r0 ≤ 8) (hz : (if x < y then y else x) = z) (K : Ef Z d md (pc + 3, L, .int z :: r0, cs) r) : Ef Z d md (pc, L, .int y :: .int x :: r0, cs) r :=
  Ef.hp h (Or.inl rfl) rfl rfl (by show ab_mx (.int y :: .int x :: r0) cs = _; unfold ab_mx; dsimp only; rw [if_pos hs, hz]) K
theorem E_min {i a b : Nat} {x y z : Int32} (h : ab_at md pc = some (.invokestatic i, 3, (8, a, b), ps)) (hs : ab_sm r0 ≤ 8) (hz : (if y < x then y else x) = z) (K : Ef Z d md (pc + 3, L, .int z :: r0, cs) r) : Ef Z d md (pc, L, .int y :: .int x :: r0, cs) r :=
  Ef.hp h (Or.inl rfl) rfl rfl (by show ab_mn (.int y :: .int x :: r0) cs = _; unfold ab_mn; dsimp only; rw [if_pos hs, hz]) K
theorem E_ldc {i a b : Nat} {x : Int32} (h : ab_at md pc = some (.ldc i, 2, (10, a, b), ps)) (hx : Int32.ofNat a = x) (K : Ef Z d md (pc + 2, L, .int x :: st, cs) r) : Ef Z d md (pc, L, st, cs) r :=
  Ef.hp h (Or.inl rfl) (ab_pu_none (fun _ => rfl) (fun _ => rfl) (fun _ _ => rfl) st) rfl (by rw [← hx]; rfl) K
theorem E_ldc_w {i a b : Nat} {x : Int32} (h : ab_at md pc = some (.ldc_w i, 3, (10, a, b), ps)) (hx : Int32.ofNat a = x) (K : Ef Z d md (pc + 3, L, .int x :: st, cs) r) : Ef Z d md (pc, L, st, cs) r :=
  Ef.hp h (Or.inl rfl) (ab_pu_none (fun _ => rfl) (fun _ => rfl) (fun _ _ => rfl) st) rfl (by rw [← hx]; rfl) K
theorem E_ldc2 {i a b : Nat} {x : Int64} (h : ab_at md pc = some (.ldc2_w i, 3, (11, a, b), ps)) (hx : Int64.ofNat a = x) (K : Ef Z d md (pc + 3, L, .long x :: st, cs) r) : Ef Z d md (pc, L, st, cs) r :=
  Ef.hp h (Or.inl rfl) (ab_pu_none (fun _ => rfl) (fun _ => rfl) (fun _ _ => rfl) st) rfl (by rw [← hx]; rfl) K
theorem E_getstatic {i a b t : Nat} (h : ab_at md pc = some (.getstatic i, 3, (13, a, b), ps)) (hx : 1000000 + a = t) (K : Ef Z d md (pc + 3, L, .ref t :: st, cs) r) : Ef Z d md (pc, L, st, cs) r :=
  Ef.hp h (Or.inl rfl) (ab_pu_none (fun _ => rfl) (fun _ => rfl) (fun _ _ => rfl) st) rfl (by rw [← hx]; rfl) K
theorem E_iret {x : Int32} (h : ab_at md pc = some (.ireturn, 1, k, ps)) (hr : ab_re md.2.2.2.1 .ireturn [.int x] = some (some (.int x))) : Ef Z d md (pc, L, [.int x], cs) (some (.int x), cs) :=
  Ef.re h (Or.inl rfl) rfl rfl rfl hr
theorem E_lret {x : Int64} (h : ab_at md pc = some (.lreturn, 1, k, ps)) (hr : ab_re md.2.2.2.1 .lreturn [.long x] = some (some (.long x))) : Ef Z d md (pc, L, [.long x], cs) (some (.long x), cs) :=
  Ef.re h (Or.inl rfl) rfl rfl rfl hr
theorem E_vret (h : ab_at md pc = some (.return_, 1, k, ps)) (hr : ab_re md.2.2.2.1 .return_ [] = some none) : Ef Z d md (pc, L, [], cs) (none, cs) :=
  Ef.re h (Or.inl rfl) rfl rfl rfl hr
theorem ab_hp_iv {i y n : Nat} {md : ab_D} {Z : ab_Z} {st : List Value} {cs : List ab_C} : ab_hp ab_G Z md.2.2.2.2.1 md.2.2.2.2.2.2.1 (.invokevirtual i) (3, y, n) st cs = none := rfl
theorem E_callV {d0 i y n : Nat} {my : ab_D} {v : Option Value} {As : List Value} (h : ab_at md pc = some (.invokevirtual i, 3, (3, y, n), ps)) (hca : ab_ca (.invokevirtual i) (3, y, n) st = some (y, As, r0)) (hmy : ab_M[y]? = some my) (c1 : ab_sm r0 ≤ 8) (c2 : As.length = my.2.2.2.2.2.1 + 1) (c3 : ab_rv ab_G my.2.2.2.2.1 As cs = true) (hv : Ev ab_Z0 d0 y As cs (v, cs2)) (hd : d0 ≤ d) (hf : cs2.length = cs.length) (K : Ef Z d md (pc + 3, L, v.toList ++ r0, cs2) r) : Ef Z d md (pc, L, st, cs) r :=
  Ef.ca h (Or.inl rfl) (ab_pu_none (fun _ => rfl) (fun _ => rfl) (fun _ _ => rfl) st) rfl rfl rfl rfl hca hmy ⟨c1, c2, fun _ => c3, fun q => by rcases q with q | q <;> cases q⟩ (hv.up hd) (Or.inl hf) K
theorem E_callS {d0 i y n : Nat} {my : ab_D} {v : Option Value} {As : List Value} (h : ab_at md pc = some (.invokestatic i, 3, (4, y, n), ps)) (hca : ab_ca (.invokestatic i) (4, y, n) st = some (y, As, r0)) (hmy : ab_M[y]? = some my) (c1 : ab_sm r0 ≤ 8) (c2 : As.length = my.2.2.2.2.2.1) (hv : Ev ab_Z0 d0 y As cs (v, cs2)) (hd : d0 ≤ d) (hf : cs2.length = cs.length) (K : Ef Z d md (pc + 3, L, v.toList ++ r0, cs2) r) : Ef Z d md (pc, L, st, cs) r :=
  Ef.ca h (Or.inl rfl) (ab_pu_none (fun _ => rfl) (fun _ => rfl) (fun _ _ => rfl) st) rfl rfl rfl rfl hca hmy ⟨c1, c2, fun q => (by cases q), fun q => by rcases q with q | q <;> cases q⟩ (hv.up hd) (Or.inl hf) K
theorem E_new {i ci a : Nat} {C : String} {T : u_T} {N : Nat} {ty : Nat → FieldType} {q : Nat} (h : ab_at md pc = some (.new i, 3, (2, ci, a), ps)) (hg : ab_G ci = some (C, T, N, ty)) (hq : cs.length = q) (hf : cs.length < 1000000 ∧ (L.all (ab_fo cs.length) && (st.all (ab_fv cs.length) && cs.all (ab_fc cs.length))) = true) (K : Ef Z d md (pc + 3, L, .ref q :: st, cs ++ [.inr (.inr (.inr (ci, ab_df ty N)))]) r) : Ef Z d md (pc, L, st, cs) r :=
  Ef.nw h (Or.inl rfl) (ab_pu_none (fun _ => rfl) (fun _ => rfl) (fun _ _ => rfl) st) rfl rfl rfl (by show (match ab_G ci with | some (_, _, N, ty) => some (st, _) | none => none) = _; rw [hg]) hf (by rw [hq]; exact K)
theorem E_init {d0 i y n : Nat} {my : ab_D} {As : List Value} (h : ab_at md pc = some (.invokespecial i, 3, (5, y, n), ps)) (hca : ab_ca (.invokespecial i) (5, y, n) st = some (y, As, r0)) (hmy : ab_M[y]? = some my) (c1 : ab_sm r0 ≤ 8) (c2 : As.length = my.2.2.2.2.2.1 + 1) (c3 : my.2.2.2.2.2.2.1 = true ∧ my.2.2.2.1 = none ∧ ab_rf As = true) (hv : Ev ab_Z0 d0 y As cs (none, cs2)) (hd : d0 ≤ d) (hf : (L.all (ab_fo cs.length) && r0.all (ab_fv cs.length)) = true) (K : Ef Z d md (pc + 3, L, r0, cs2) r) : Ef Z d md (pc, L, st, cs) r :=
  Ef.ca h (Or.inl rfl) (ab_pu_none (fun _ => rfl) (fun _ => rfl) (fun _ _ => rfl) st) rfl rfl rfl rfl hca hmy ⟨c1, c2, fun q => (by cases q), fun _ => c3⟩ (hv.up hd) (Or.inr hf) K
end ER
theorem cn_eq {x y : Int32} {a b : Int} (hx : x.toInt = a) (hy : y.toInt = b) : ab_cn .eq x y = decide (a = b) := by
  subst hx; subst hy
  exact decide_eq_decide.mpr (Int32.toInt_inj).symm
theorem cn_ne {x y : Int32} {a b : Int} (hx : x.toInt = a) (hy : y.toInt = b) : ab_cn .ne x y = decide (¬ a = b) := by
  subst hx; subst hy
  exact decide_eq_decide.mpr (not_congr (Int32.toInt_inj).symm)
theorem cn_lt {x y : Int32} {a b : Int} (hx : x.toInt = a) (hy : y.toInt = b) : ab_cn .lt x y = decide (a < b) := by
  subst hx; subst hy
  exact decide_eq_decide.mpr Int32.lt_iff_toInt_lt
theorem cn_ge {x y : Int32} {a b : Int} (hx : x.toInt = a) (hy : y.toInt = b) : ab_cn .ge x y = decide (b ≤ a) := by
  subst hx; subst hy
  exact decide_eq_decide.mpr Int32.le_iff_toInt_le
theorem cn_gt {x y : Int32} {a b : Int} (hx : x.toInt = a) (hy : y.toInt = b) : ab_cn .gt x y = decide (b < a) := by
  subst hx; subst hy
  exact decide_eq_decide.mpr Int32.lt_iff_toInt_lt
theorem cn_le {x y : Int32} {a b : Int} (hx : x.toInt = a) (hy : y.toInt = b) : ab_cn .le x y = decide (a ≤ b) := by
  subst hx; subst hy
  exact decide_eq_decide.mpr Int32.le_iff_toInt_le
end
section
/-! what each method answers on the fresh world, the class beside the reference; by program (wip/tools/p1.py) -/
theorem ab_nneg {i : Int32} (h : 0 ≤ i.toInt) : ¬ i < 0 := fun q => by
  have := Int32.lt_iff_toInt_lt.mp q
  have e : (0 : Int32).toInt = 0 := by decide
  omega
theorem ab_pick {l : List Int32} {x i : Int32} {lo hi : Nat} (h : ((List.range (hi + 1)).all (fun j => decide (j < lo) || decide (l[j]? = some x))) = true) (h1 : (lo : Int) ≤ i.toInt) (h2 : i.toInt ≤ hi) : l[i.toNatClampNeg]? = some x := by
  have e : (i.toNatClampNeg : Int) = i.toInt := by
    show ((i.toInt.toNat : Nat) : Int) = i.toInt
    omega
  have h3 := List.all_eq_true.mp h i.toNatClampNeg (List.mem_range.mpr (by omega))
  rw [Bool.or_eq_true, decide_eq_true_eq, decide_eq_true_eq] at h3
  rcases h3 with h3 | h3
  · omega
  · exact h3
theorem ab_ltge (a b : Int) : a < b ∨ b ≤ a := by omega
theorem ab_szs {cs : List ab_C} {q : Nat} {c : ab_C} (h : (cs[q]?).map ab_sc = some (ab_sc c)) : ab_sz (cs.set q c) = ab_sz cs := by
  cases hq : cs[q]? with
  | none => rw [hq] at h; cases h
  | some z =>
    rw [hq] at h
    exact ab_sz_set hq (Option.some.inj h).symm
def p1_P (d1 y1 d2 y2 : Nat) (As Bs : List Value) : Prop := ∃ (r : Int32) (cs1 cs2 : List ab_C), Ev ab_Z0 d1 y1 As w0 (some (.int r), cs1) ∧ Ev ab_Z0 d2 y2 Bs cs1 (some (.int r), cs2) ∧ cs1.length = 95 ∧ cs2.length = 95 ∧ ab_sz cs2 = ab_sz w0
def p1_PJ (d1 y1 d2 y2 : Nat) (As Bs : List Value) : Prop := ∃ (r : Int64) (cs1 cs2 : List ab_C), Ev ab_Z0 d1 y1 As w0 (some (.long r), cs1) ∧ Ev ab_Z0 d2 y2 Bs cs1 (some (.long r), cs2) ∧ cs1.length = 95 ∧ cs2.length = 95 ∧ ab_sz cs2 = ab_sz w0
end
section
theorem c2_X5_isShelf : Ev ab_Z0 1 117 [.int 0] w0 (some (.int 1), w0) := by
  refine Ef.in (md := mX5_isShelf) (L := [some (.int 0)]) rfl (Nat.le_of_ble_eq_true rfl) rfl ?_
  refine E_iload_n rfl rfl ?_
  refine E_if (t := 14) (b := false) rfl rfl (by decide) ?_
  refine E_iload_n rfl rfl ?_
  refine E_bipush (x := 8) rfl (by decide) ?_
  refine E_ic (t := 14) (b := false) rfl rfl (by decide) ?_
  refine E_iconst (x := 1) rfl (by decide) ?_
  refine E_goto (t := 15) rfl rfl ?_
  exact E_iret rfl rfl
theorem c1_X5_holds : Ev ab_Z0 2 81 [.ref 0, .int 0] w0 (some (.int (-1)), w0) := by
  refine Ef.in (md := mX5_holds) (L := [some (.ref 0), some (.int 0)]) rfl (Nat.le_of_ble_eq_true rfl) rfl ?_
  refine E_iload_n rfl rfl ?_
  refine E_callS (v := some (.int 1)) (As := [.int 0]) (r0 := []) (cs2 := w0) rfl rfl rfl (Nat.le_of_ble_eq_true rfl) rfl c2_X5_isShelf (by decide) rfl ?_
  refine E_if (t := 19) (b := false) rfl rfl (by decide) ?_
  refine E_aload_n rfl rfl ?_
  refine E_getfield (v := .ref 31) rfl rfl rfl (by decide) rfl ?_
  refine E_iload_n rfl rfl ?_
  refine E_aaload (b := 49) (j := 0) rfl rfl (by decide) (by decide) rfl ?_
  refine E_getfield (v := .int (-1)) rfl rfl rfl (by decide) rfl ?_
  refine E_goto (t := 20) rfl rfl ?_
  exact E_iret rfl rfl
theorem c4_X6_isShelf : Ev ab_Z0 1 131 [.ref 65, .int 0] w0 (some (.int 1), w0) := by
  refine Ef.in (md := mX6_isShelf) (L := [some (.ref 65), some (.int 0)]) rfl (Nat.le_of_ble_eq_true rfl) rfl ?_
  refine E_iload_n rfl rfl ?_
  refine E_if (t := 14) (b := false) rfl rfl (by decide) ?_
  refine E_iload_n rfl rfl ?_
  refine E_bipush (x := 8) rfl (by decide) ?_
  refine E_ic (t := 14) (b := false) rfl rfl (by decide) ?_
  refine E_iconst (x := 1) rfl (by decide) ?_
  refine E_goto (t := 15) rfl rfl ?_
  exact E_iret rfl rfl
theorem c3_X6_holds : Ev ab_Z0 2 140 [.ref 65, .int 0] w0 (some (.int (-1)), w0) := by
  refine Ef.in (md := mX6_holds) (L := [some (.ref 65), some (.int 0)]) rfl (Nat.le_of_ble_eq_true rfl) rfl ?_
  refine E_aload_n rfl rfl ?_
  refine E_iload_n rfl rfl ?_
  refine E_callV (v := some (.int 1)) (As := [.ref 65, .int 0]) (r0 := []) (cs2 := w0) rfl rfl rfl (Nat.le_of_ble_eq_true rfl) rfl rfl c4_X6_isShelf (by decide) rfl ?_
  refine E_if (t := 17) (b := false) rfl rfl (by decide) ?_
  refine E_aload_n rfl rfl ?_
  refine E_getfield (v := .ref 76) rfl rfl rfl (by decide) rfl ?_
  refine E_iload_n rfl rfl ?_
  refine E_iaload (x := 0) (j := 0) rfl rfl (by decide) (by decide) rfl ?_
  refine E_if (t := 19) (b := false) rfl rfl (by decide) ?_
  refine E_iconst (x := (-1)) rfl (by decide) ?_
  exact E_iret rfl rfl
theorem c6_X5_isShelf : Ev ab_Z0 1 117 [.int 1] w0 (some (.int 1), w0) := by
  refine Ef.in (md := mX5_isShelf) (L := [some (.int 1)]) rfl (Nat.le_of_ble_eq_true rfl) rfl ?_
  refine E_iload_n rfl rfl ?_
  refine E_if (t := 14) (b := false) rfl rfl (by decide) ?_
  refine E_iload_n rfl rfl ?_
  refine E_bipush (x := 8) rfl (by decide) ?_
  refine E_ic (t := 14) (b := false) rfl rfl (by decide) ?_
  refine E_iconst (x := 1) rfl (by decide) ?_
  refine E_goto (t := 15) rfl rfl ?_
  exact E_iret rfl rfl
theorem c5_X5_holds : Ev ab_Z0 2 81 [.ref 0, .int 1] w0 (some (.int (-1)), w0) := by
  refine Ef.in (md := mX5_holds) (L := [some (.ref 0), some (.int 1)]) rfl (Nat.le_of_ble_eq_true rfl) rfl ?_
  refine E_iload_n rfl rfl ?_
  refine E_callS (v := some (.int 1)) (As := [.int 1]) (r0 := []) (cs2 := w0) rfl rfl rfl (Nat.le_of_ble_eq_true rfl) rfl c6_X5_isShelf (by decide) rfl ?_
  refine E_if (t := 19) (b := false) rfl rfl (by decide) ?_
  refine E_aload_n rfl rfl ?_
  refine E_getfield (v := .ref 31) rfl rfl rfl (by decide) rfl ?_
  refine E_iload_n rfl rfl ?_
  refine E_aaload (b := 51) (j := 1) rfl rfl (by decide) (by decide) rfl ?_
  refine E_getfield (v := .int (-1)) rfl rfl rfl (by decide) rfl ?_
  refine E_goto (t := 20) rfl rfl ?_
  exact E_iret rfl rfl
theorem c8_X6_isShelf : Ev ab_Z0 1 131 [.ref 65, .int 1] w0 (some (.int 1), w0) := by
  refine Ef.in (md := mX6_isShelf) (L := [some (.ref 65), some (.int 1)]) rfl (Nat.le_of_ble_eq_true rfl) rfl ?_
  refine E_iload_n rfl rfl ?_
  refine E_if (t := 14) (b := false) rfl rfl (by decide) ?_
  refine E_iload_n rfl rfl ?_
  refine E_bipush (x := 8) rfl (by decide) ?_
  refine E_ic (t := 14) (b := false) rfl rfl (by decide) ?_
  refine E_iconst (x := 1) rfl (by decide) ?_
  refine E_goto (t := 15) rfl rfl ?_
  exact E_iret rfl rfl
theorem c7_X6_holds : Ev ab_Z0 2 140 [.ref 65, .int 1] w0 (some (.int (-1)), w0) := by
  refine Ef.in (md := mX6_holds) (L := [some (.ref 65), some (.int 1)]) rfl (Nat.le_of_ble_eq_true rfl) rfl ?_
  refine E_aload_n rfl rfl ?_
  refine E_iload_n rfl rfl ?_
  refine E_callV (v := some (.int 1)) (As := [.ref 65, .int 1]) (r0 := []) (cs2 := w0) rfl rfl rfl (Nat.le_of_ble_eq_true rfl) rfl rfl c8_X6_isShelf (by decide) rfl ?_
  refine E_if (t := 17) (b := false) rfl rfl (by decide) ?_
  refine E_aload_n rfl rfl ?_
  refine E_getfield (v := .ref 76) rfl rfl rfl (by decide) rfl ?_
  refine E_iload_n rfl rfl ?_
  refine E_iaload (x := 0) (j := 1) rfl rfl (by decide) (by decide) rfl ?_
  refine E_if (t := 19) (b := false) rfl rfl (by decide) ?_
  refine E_iconst (x := (-1)) rfl (by decide) ?_
  exact E_iret rfl rfl
theorem c10_X5_isShelf : Ev ab_Z0 1 117 [.int 2] w0 (some (.int 1), w0) := by
  refine Ef.in (md := mX5_isShelf) (L := [some (.int 2)]) rfl (Nat.le_of_ble_eq_true rfl) rfl ?_
  refine E_iload_n rfl rfl ?_
  refine E_if (t := 14) (b := false) rfl rfl (by decide) ?_
  refine E_iload_n rfl rfl ?_
  refine E_bipush (x := 8) rfl (by decide) ?_
  refine E_ic (t := 14) (b := false) rfl rfl (by decide) ?_
  refine E_iconst (x := 1) rfl (by decide) ?_
  refine E_goto (t := 15) rfl rfl ?_
  exact E_iret rfl rfl
theorem c9_X5_holds : Ev ab_Z0 2 81 [.ref 0, .int 2] w0 (some (.int (-1)), w0) := by
  refine Ef.in (md := mX5_holds) (L := [some (.ref 0), some (.int 2)]) rfl (Nat.le_of_ble_eq_true rfl) rfl ?_
  refine E_iload_n rfl rfl ?_
  refine E_callS (v := some (.int 1)) (As := [.int 2]) (r0 := []) (cs2 := w0) rfl rfl rfl (Nat.le_of_ble_eq_true rfl) rfl c10_X5_isShelf (by decide) rfl ?_
  refine E_if (t := 19) (b := false) rfl rfl (by decide) ?_
  refine E_aload_n rfl rfl ?_
  refine E_getfield (v := .ref 31) rfl rfl rfl (by decide) rfl ?_
  refine E_iload_n rfl rfl ?_
  refine E_aaload (b := 53) (j := 2) rfl rfl (by decide) (by decide) rfl ?_
  refine E_getfield (v := .int (-1)) rfl rfl rfl (by decide) rfl ?_
  refine E_goto (t := 20) rfl rfl ?_
  exact E_iret rfl rfl
theorem c12_X6_isShelf : Ev ab_Z0 1 131 [.ref 65, .int 2] w0 (some (.int 1), w0) := by
  refine Ef.in (md := mX6_isShelf) (L := [some (.ref 65), some (.int 2)]) rfl (Nat.le_of_ble_eq_true rfl) rfl ?_
  refine E_iload_n rfl rfl ?_
  refine E_if (t := 14) (b := false) rfl rfl (by decide) ?_
  refine E_iload_n rfl rfl ?_
  refine E_bipush (x := 8) rfl (by decide) ?_
  refine E_ic (t := 14) (b := false) rfl rfl (by decide) ?_
  refine E_iconst (x := 1) rfl (by decide) ?_
  refine E_goto (t := 15) rfl rfl ?_
  exact E_iret rfl rfl
theorem c11_X6_holds : Ev ab_Z0 2 140 [.ref 65, .int 2] w0 (some (.int (-1)), w0) := by
  refine Ef.in (md := mX6_holds) (L := [some (.ref 65), some (.int 2)]) rfl (Nat.le_of_ble_eq_true rfl) rfl ?_
  refine E_aload_n rfl rfl ?_
  refine E_iload_n rfl rfl ?_
  refine E_callV (v := some (.int 1)) (As := [.ref 65, .int 2]) (r0 := []) (cs2 := w0) rfl rfl rfl (Nat.le_of_ble_eq_true rfl) rfl rfl c12_X6_isShelf (by decide) rfl ?_
  refine E_if (t := 17) (b := false) rfl rfl (by decide) ?_
  refine E_aload_n rfl rfl ?_
  refine E_getfield (v := .ref 76) rfl rfl rfl (by decide) rfl ?_
  refine E_iload_n rfl rfl ?_
  refine E_iaload (x := 0) (j := 2) rfl rfl (by decide) (by decide) rfl ?_
  refine E_if (t := 19) (b := false) rfl rfl (by decide) ?_
  refine E_iconst (x := (-1)) rfl (by decide) ?_
  exact E_iret rfl rfl
theorem c14_X5_isShelf : Ev ab_Z0 1 117 [.int 3] w0 (some (.int 1), w0) := by
  refine Ef.in (md := mX5_isShelf) (L := [some (.int 3)]) rfl (Nat.le_of_ble_eq_true rfl) rfl ?_
  refine E_iload_n rfl rfl ?_
  refine E_if (t := 14) (b := false) rfl rfl (by decide) ?_
  refine E_iload_n rfl rfl ?_
  refine E_bipush (x := 8) rfl (by decide) ?_
  refine E_ic (t := 14) (b := false) rfl rfl (by decide) ?_
  refine E_iconst (x := 1) rfl (by decide) ?_
  refine E_goto (t := 15) rfl rfl ?_
  exact E_iret rfl rfl
theorem c13_X5_holds : Ev ab_Z0 2 81 [.ref 0, .int 3] w0 (some (.int (-1)), w0) := by
  refine Ef.in (md := mX5_holds) (L := [some (.ref 0), some (.int 3)]) rfl (Nat.le_of_ble_eq_true rfl) rfl ?_
  refine E_iload_n rfl rfl ?_
  refine E_callS (v := some (.int 1)) (As := [.int 3]) (r0 := []) (cs2 := w0) rfl rfl rfl (Nat.le_of_ble_eq_true rfl) rfl c14_X5_isShelf (by decide) rfl ?_
  refine E_if (t := 19) (b := false) rfl rfl (by decide) ?_
  refine E_aload_n rfl rfl ?_
  refine E_getfield (v := .ref 31) rfl rfl rfl (by decide) rfl ?_
  refine E_iload_n rfl rfl ?_
  refine E_aaload (b := 55) (j := 3) rfl rfl (by decide) (by decide) rfl ?_
  refine E_getfield (v := .int (-1)) rfl rfl rfl (by decide) rfl ?_
  refine E_goto (t := 20) rfl rfl ?_
  exact E_iret rfl rfl
theorem c16_X6_isShelf : Ev ab_Z0 1 131 [.ref 65, .int 3] w0 (some (.int 1), w0) := by
  refine Ef.in (md := mX6_isShelf) (L := [some (.ref 65), some (.int 3)]) rfl (Nat.le_of_ble_eq_true rfl) rfl ?_
  refine E_iload_n rfl rfl ?_
  refine E_if (t := 14) (b := false) rfl rfl (by decide) ?_
  refine E_iload_n rfl rfl ?_
  refine E_bipush (x := 8) rfl (by decide) ?_
  refine E_ic (t := 14) (b := false) rfl rfl (by decide) ?_
  refine E_iconst (x := 1) rfl (by decide) ?_
  refine E_goto (t := 15) rfl rfl ?_
  exact E_iret rfl rfl
theorem c15_X6_holds : Ev ab_Z0 2 140 [.ref 65, .int 3] w0 (some (.int (-1)), w0) := by
  refine Ef.in (md := mX6_holds) (L := [some (.ref 65), some (.int 3)]) rfl (Nat.le_of_ble_eq_true rfl) rfl ?_
  refine E_aload_n rfl rfl ?_
  refine E_iload_n rfl rfl ?_
  refine E_callV (v := some (.int 1)) (As := [.ref 65, .int 3]) (r0 := []) (cs2 := w0) rfl rfl rfl (Nat.le_of_ble_eq_true rfl) rfl rfl c16_X6_isShelf (by decide) rfl ?_
  refine E_if (t := 17) (b := false) rfl rfl (by decide) ?_
  refine E_aload_n rfl rfl ?_
  refine E_getfield (v := .ref 76) rfl rfl rfl (by decide) rfl ?_
  refine E_iload_n rfl rfl ?_
  refine E_iaload (x := 0) (j := 3) rfl rfl (by decide) (by decide) rfl ?_
  refine E_if (t := 19) (b := false) rfl rfl (by decide) ?_
  refine E_iconst (x := (-1)) rfl (by decide) ?_
  exact E_iret rfl rfl
theorem c18_X5_isShelf : Ev ab_Z0 1 117 [.int 4] w0 (some (.int 1), w0) := by
  refine Ef.in (md := mX5_isShelf) (L := [some (.int 4)]) rfl (Nat.le_of_ble_eq_true rfl) rfl ?_
  refine E_iload_n rfl rfl ?_
  refine E_if (t := 14) (b := false) rfl rfl (by decide) ?_
  refine E_iload_n rfl rfl ?_
  refine E_bipush (x := 8) rfl (by decide) ?_
  refine E_ic (t := 14) (b := false) rfl rfl (by decide) ?_
  refine E_iconst (x := 1) rfl (by decide) ?_
  refine E_goto (t := 15) rfl rfl ?_
  exact E_iret rfl rfl
theorem c17_X5_holds : Ev ab_Z0 2 81 [.ref 0, .int 4] w0 (some (.int (-1)), w0) := by
  refine Ef.in (md := mX5_holds) (L := [some (.ref 0), some (.int 4)]) rfl (Nat.le_of_ble_eq_true rfl) rfl ?_
  refine E_iload_n rfl rfl ?_
  refine E_callS (v := some (.int 1)) (As := [.int 4]) (r0 := []) (cs2 := w0) rfl rfl rfl (Nat.le_of_ble_eq_true rfl) rfl c18_X5_isShelf (by decide) rfl ?_
  refine E_if (t := 19) (b := false) rfl rfl (by decide) ?_
  refine E_aload_n rfl rfl ?_
  refine E_getfield (v := .ref 31) rfl rfl rfl (by decide) rfl ?_
  refine E_iload_n rfl rfl ?_
  refine E_aaload (b := 57) (j := 4) rfl rfl (by decide) (by decide) rfl ?_
  refine E_getfield (v := .int (-1)) rfl rfl rfl (by decide) rfl ?_
  refine E_goto (t := 20) rfl rfl ?_
  exact E_iret rfl rfl
theorem c20_X6_isShelf : Ev ab_Z0 1 131 [.ref 65, .int 4] w0 (some (.int 1), w0) := by
  refine Ef.in (md := mX6_isShelf) (L := [some (.ref 65), some (.int 4)]) rfl (Nat.le_of_ble_eq_true rfl) rfl ?_
  refine E_iload_n rfl rfl ?_
  refine E_if (t := 14) (b := false) rfl rfl (by decide) ?_
  refine E_iload_n rfl rfl ?_
  refine E_bipush (x := 8) rfl (by decide) ?_
  refine E_ic (t := 14) (b := false) rfl rfl (by decide) ?_
  refine E_iconst (x := 1) rfl (by decide) ?_
  refine E_goto (t := 15) rfl rfl ?_
  exact E_iret rfl rfl
theorem c19_X6_holds : Ev ab_Z0 2 140 [.ref 65, .int 4] w0 (some (.int (-1)), w0) := by
  refine Ef.in (md := mX6_holds) (L := [some (.ref 65), some (.int 4)]) rfl (Nat.le_of_ble_eq_true rfl) rfl ?_
  refine E_aload_n rfl rfl ?_
  refine E_iload_n rfl rfl ?_
  refine E_callV (v := some (.int 1)) (As := [.ref 65, .int 4]) (r0 := []) (cs2 := w0) rfl rfl rfl (Nat.le_of_ble_eq_true rfl) rfl rfl c20_X6_isShelf (by decide) rfl ?_
  refine E_if (t := 17) (b := false) rfl rfl (by decide) ?_
  refine E_aload_n rfl rfl ?_
  refine E_getfield (v := .ref 76) rfl rfl rfl (by decide) rfl ?_
  refine E_iload_n rfl rfl ?_
  refine E_iaload (x := 0) (j := 4) rfl rfl (by decide) (by decide) rfl ?_
  refine E_if (t := 19) (b := false) rfl rfl (by decide) ?_
  refine E_iconst (x := (-1)) rfl (by decide) ?_
  exact E_iret rfl rfl
theorem c22_X5_isShelf : Ev ab_Z0 1 117 [.int 5] w0 (some (.int 1), w0) := by
  refine Ef.in (md := mX5_isShelf) (L := [some (.int 5)]) rfl (Nat.le_of_ble_eq_true rfl) rfl ?_
  refine E_iload_n rfl rfl ?_
  refine E_if (t := 14) (b := false) rfl rfl (by decide) ?_
  refine E_iload_n rfl rfl ?_
  refine E_bipush (x := 8) rfl (by decide) ?_
  refine E_ic (t := 14) (b := false) rfl rfl (by decide) ?_
  refine E_iconst (x := 1) rfl (by decide) ?_
  refine E_goto (t := 15) rfl rfl ?_
  exact E_iret rfl rfl
theorem c21_X5_holds : Ev ab_Z0 2 81 [.ref 0, .int 5] w0 (some (.int (-1)), w0) := by
  refine Ef.in (md := mX5_holds) (L := [some (.ref 0), some (.int 5)]) rfl (Nat.le_of_ble_eq_true rfl) rfl ?_
  refine E_iload_n rfl rfl ?_
  refine E_callS (v := some (.int 1)) (As := [.int 5]) (r0 := []) (cs2 := w0) rfl rfl rfl (Nat.le_of_ble_eq_true rfl) rfl c22_X5_isShelf (by decide) rfl ?_
  refine E_if (t := 19) (b := false) rfl rfl (by decide) ?_
  refine E_aload_n rfl rfl ?_
  refine E_getfield (v := .ref 31) rfl rfl rfl (by decide) rfl ?_
  refine E_iload_n rfl rfl ?_
  refine E_aaload (b := 59) (j := 5) rfl rfl (by decide) (by decide) rfl ?_
  refine E_getfield (v := .int (-1)) rfl rfl rfl (by decide) rfl ?_
  refine E_goto (t := 20) rfl rfl ?_
  exact E_iret rfl rfl
theorem c24_X6_isShelf : Ev ab_Z0 1 131 [.ref 65, .int 5] w0 (some (.int 1), w0) := by
  refine Ef.in (md := mX6_isShelf) (L := [some (.ref 65), some (.int 5)]) rfl (Nat.le_of_ble_eq_true rfl) rfl ?_
  refine E_iload_n rfl rfl ?_
  refine E_if (t := 14) (b := false) rfl rfl (by decide) ?_
  refine E_iload_n rfl rfl ?_
  refine E_bipush (x := 8) rfl (by decide) ?_
  refine E_ic (t := 14) (b := false) rfl rfl (by decide) ?_
  refine E_iconst (x := 1) rfl (by decide) ?_
  refine E_goto (t := 15) rfl rfl ?_
  exact E_iret rfl rfl
theorem c23_X6_holds : Ev ab_Z0 2 140 [.ref 65, .int 5] w0 (some (.int (-1)), w0) := by
  refine Ef.in (md := mX6_holds) (L := [some (.ref 65), some (.int 5)]) rfl (Nat.le_of_ble_eq_true rfl) rfl ?_
  refine E_aload_n rfl rfl ?_
  refine E_iload_n rfl rfl ?_
  refine E_callV (v := some (.int 1)) (As := [.ref 65, .int 5]) (r0 := []) (cs2 := w0) rfl rfl rfl (Nat.le_of_ble_eq_true rfl) rfl rfl c24_X6_isShelf (by decide) rfl ?_
  refine E_if (t := 17) (b := false) rfl rfl (by decide) ?_
  refine E_aload_n rfl rfl ?_
  refine E_getfield (v := .ref 76) rfl rfl rfl (by decide) rfl ?_
  refine E_iload_n rfl rfl ?_
  refine E_iaload (x := 0) (j := 5) rfl rfl (by decide) (by decide) rfl ?_
  refine E_if (t := 19) (b := false) rfl rfl (by decide) ?_
  refine E_iconst (x := (-1)) rfl (by decide) ?_
  exact E_iret rfl rfl
theorem c26_X5_isShelf : Ev ab_Z0 1 117 [.int 6] w0 (some (.int 1), w0) := by
  refine Ef.in (md := mX5_isShelf) (L := [some (.int 6)]) rfl (Nat.le_of_ble_eq_true rfl) rfl ?_
  refine E_iload_n rfl rfl ?_
  refine E_if (t := 14) (b := false) rfl rfl (by decide) ?_
  refine E_iload_n rfl rfl ?_
  refine E_bipush (x := 8) rfl (by decide) ?_
  refine E_ic (t := 14) (b := false) rfl rfl (by decide) ?_
  refine E_iconst (x := 1) rfl (by decide) ?_
  refine E_goto (t := 15) rfl rfl ?_
  exact E_iret rfl rfl
theorem c25_X5_holds : Ev ab_Z0 2 81 [.ref 0, .int 6] w0 (some (.int (-1)), w0) := by
  refine Ef.in (md := mX5_holds) (L := [some (.ref 0), some (.int 6)]) rfl (Nat.le_of_ble_eq_true rfl) rfl ?_
  refine E_iload_n rfl rfl ?_
  refine E_callS (v := some (.int 1)) (As := [.int 6]) (r0 := []) (cs2 := w0) rfl rfl rfl (Nat.le_of_ble_eq_true rfl) rfl c26_X5_isShelf (by decide) rfl ?_
  refine E_if (t := 19) (b := false) rfl rfl (by decide) ?_
  refine E_aload_n rfl rfl ?_
  refine E_getfield (v := .ref 31) rfl rfl rfl (by decide) rfl ?_
  refine E_iload_n rfl rfl ?_
  refine E_aaload (b := 61) (j := 6) rfl rfl (by decide) (by decide) rfl ?_
  refine E_getfield (v := .int (-1)) rfl rfl rfl (by decide) rfl ?_
  refine E_goto (t := 20) rfl rfl ?_
  exact E_iret rfl rfl
theorem c28_X6_isShelf : Ev ab_Z0 1 131 [.ref 65, .int 6] w0 (some (.int 1), w0) := by
  refine Ef.in (md := mX6_isShelf) (L := [some (.ref 65), some (.int 6)]) rfl (Nat.le_of_ble_eq_true rfl) rfl ?_
  refine E_iload_n rfl rfl ?_
  refine E_if (t := 14) (b := false) rfl rfl (by decide) ?_
  refine E_iload_n rfl rfl ?_
  refine E_bipush (x := 8) rfl (by decide) ?_
  refine E_ic (t := 14) (b := false) rfl rfl (by decide) ?_
  refine E_iconst (x := 1) rfl (by decide) ?_
  refine E_goto (t := 15) rfl rfl ?_
  exact E_iret rfl rfl
theorem c27_X6_holds : Ev ab_Z0 2 140 [.ref 65, .int 6] w0 (some (.int (-1)), w0) := by
  refine Ef.in (md := mX6_holds) (L := [some (.ref 65), some (.int 6)]) rfl (Nat.le_of_ble_eq_true rfl) rfl ?_
  refine E_aload_n rfl rfl ?_
  refine E_iload_n rfl rfl ?_
  refine E_callV (v := some (.int 1)) (As := [.ref 65, .int 6]) (r0 := []) (cs2 := w0) rfl rfl rfl (Nat.le_of_ble_eq_true rfl) rfl rfl c28_X6_isShelf (by decide) rfl ?_
  refine E_if (t := 17) (b := false) rfl rfl (by decide) ?_
  refine E_aload_n rfl rfl ?_
  refine E_getfield (v := .ref 76) rfl rfl rfl (by decide) rfl ?_
  refine E_iload_n rfl rfl ?_
  refine E_iaload (x := 0) (j := 6) rfl rfl (by decide) (by decide) rfl ?_
  refine E_if (t := 19) (b := false) rfl rfl (by decide) ?_
  refine E_iconst (x := (-1)) rfl (by decide) ?_
  exact E_iret rfl rfl
theorem c30_X5_isShelf : Ev ab_Z0 1 117 [.int 7] w0 (some (.int 1), w0) := by
  refine Ef.in (md := mX5_isShelf) (L := [some (.int 7)]) rfl (Nat.le_of_ble_eq_true rfl) rfl ?_
  refine E_iload_n rfl rfl ?_
  refine E_if (t := 14) (b := false) rfl rfl (by decide) ?_
  refine E_iload_n rfl rfl ?_
  refine E_bipush (x := 8) rfl (by decide) ?_
  refine E_ic (t := 14) (b := false) rfl rfl (by decide) ?_
  refine E_iconst (x := 1) rfl (by decide) ?_
  refine E_goto (t := 15) rfl rfl ?_
  exact E_iret rfl rfl
theorem c29_X5_holds : Ev ab_Z0 2 81 [.ref 0, .int 7] w0 (some (.int (-1)), w0) := by
  refine Ef.in (md := mX5_holds) (L := [some (.ref 0), some (.int 7)]) rfl (Nat.le_of_ble_eq_true rfl) rfl ?_
  refine E_iload_n rfl rfl ?_
  refine E_callS (v := some (.int 1)) (As := [.int 7]) (r0 := []) (cs2 := w0) rfl rfl rfl (Nat.le_of_ble_eq_true rfl) rfl c30_X5_isShelf (by decide) rfl ?_
  refine E_if (t := 19) (b := false) rfl rfl (by decide) ?_
  refine E_aload_n rfl rfl ?_
  refine E_getfield (v := .ref 31) rfl rfl rfl (by decide) rfl ?_
  refine E_iload_n rfl rfl ?_
  refine E_aaload (b := 63) (j := 7) rfl rfl (by decide) (by decide) rfl ?_
  refine E_getfield (v := .int (-1)) rfl rfl rfl (by decide) rfl ?_
  refine E_goto (t := 20) rfl rfl ?_
  exact E_iret rfl rfl
theorem c32_X6_isShelf : Ev ab_Z0 1 131 [.ref 65, .int 7] w0 (some (.int 1), w0) := by
  refine Ef.in (md := mX6_isShelf) (L := [some (.ref 65), some (.int 7)]) rfl (Nat.le_of_ble_eq_true rfl) rfl ?_
  refine E_iload_n rfl rfl ?_
  refine E_if (t := 14) (b := false) rfl rfl (by decide) ?_
  refine E_iload_n rfl rfl ?_
  refine E_bipush (x := 8) rfl (by decide) ?_
  refine E_ic (t := 14) (b := false) rfl rfl (by decide) ?_
  refine E_iconst (x := 1) rfl (by decide) ?_
  refine E_goto (t := 15) rfl rfl ?_
  exact E_iret rfl rfl
theorem c31_X6_holds : Ev ab_Z0 2 140 [.ref 65, .int 7] w0 (some (.int (-1)), w0) := by
  refine Ef.in (md := mX6_holds) (L := [some (.ref 65), some (.int 7)]) rfl (Nat.le_of_ble_eq_true rfl) rfl ?_
  refine E_aload_n rfl rfl ?_
  refine E_iload_n rfl rfl ?_
  refine E_callV (v := some (.int 1)) (As := [.ref 65, .int 7]) (r0 := []) (cs2 := w0) rfl rfl rfl (Nat.le_of_ble_eq_true rfl) rfl rfl c32_X6_isShelf (by decide) rfl ?_
  refine E_if (t := 17) (b := false) rfl rfl (by decide) ?_
  refine E_aload_n rfl rfl ?_
  refine E_getfield (v := .ref 76) rfl rfl rfl (by decide) rfl ?_
  refine E_iload_n rfl rfl ?_
  refine E_iaload (x := 0) (j := 7) rfl rfl (by decide) (by decide) rfl ?_
  refine E_if (t := 19) (b := false) rfl rfl (by decide) ?_
  refine E_iconst (x := (-1)) rfl (by decide) ?_
  exact E_iret rfl rfl
theorem f_holds_1 (a1 : Int32) (ha1h : a1.toInt ≤ -1) : p1_P 2 81 2 140 [.ref 0, .int a1] [.ref 65, .int a1] :=
  ⟨(-1), w0, w0, by
    refine Ef.in (md := mX5_holds) (L := [some (.ref 0), some (.int a1)]) rfl (Nat.le_of_ble_eq_true rfl) rfl ?_
    refine E_iload_n rfl rfl ?_
    have e2 : Ev ab_Z0 1 117 [.int a1] w0 (some (.int 0), w0) := by
      refine Ef.in (md := mX5_isShelf) (L := [some (.int a1)]) rfl (Nat.le_of_ble_eq_true rfl) rfl ?_
      refine E_iload_n rfl rfl ?_
      refine E_if (t := 14) (b := true) rfl rfl ((cn_lt (rfl : (a1).toInt = (a1).toInt) (by decide : (0 : Int32).toInt = 0)).trans (decide_eq_true (by omega))) ?_
      refine E_iconst (x := 0) rfl (by decide) ?_
      exact E_iret rfl rfl
    refine E_callS (v := some (.int 0)) (As := [.int a1]) (r0 := []) (cs2 := w0) rfl rfl rfl (Nat.le_of_ble_eq_true rfl) rfl e2 (by decide) rfl ?_
    refine E_if (t := 19) (b := true) rfl rfl (by decide) ?_
    refine E_iconst (x := (-1)) rfl (by decide) ?_
    exact E_iret rfl rfl, by
    refine Ef.in (md := mX6_holds) (L := [some (.ref 65), some (.int a1)]) rfl (Nat.le_of_ble_eq_true rfl) rfl ?_
    refine E_aload_n rfl rfl ?_
    refine E_iload_n rfl rfl ?_
    have e3 : Ev ab_Z0 1 131 [.ref 65, .int a1] w0 (some (.int 0), w0) := by
      refine Ef.in (md := mX6_isShelf) (L := [some (.ref 65), some (.int a1)]) rfl (Nat.le_of_ble_eq_true rfl) rfl ?_
      refine E_iload_n rfl rfl ?_
      refine E_if (t := 14) (b := true) rfl rfl ((cn_lt (rfl : (a1).toInt = (a1).toInt) (by decide : (0 : Int32).toInt = 0)).trans (decide_eq_true (by omega))) ?_
      refine E_iconst (x := 0) rfl (by decide) ?_
      exact E_iret rfl rfl
    refine E_callV (v := some (.int 0)) (As := [.ref 65, .int a1]) (r0 := []) (cs2 := w0) rfl rfl rfl (Nat.le_of_ble_eq_true rfl) rfl rfl e3 (by decide) rfl ?_
    refine E_if (t := 17) (b := true) rfl rfl (by decide) ?_
    refine E_iconst (x := (-1)) rfl (by decide) ?_
    exact E_iret rfl rfl, rfl, rfl, rfl⟩
theorem f_holds_2 : p1_P 2 81 2 140 [.ref 0, .int 0] [.ref 65, .int 0] :=
  ⟨(-1), w0, w0, by
    exact c1_X5_holds, by
    exact c3_X6_holds, rfl, rfl, rfl⟩
theorem f_holds_3 : p1_P 2 81 2 140 [.ref 0, .int 1] [.ref 65, .int 1] :=
  ⟨(-1), w0, w0, by
    exact c5_X5_holds, by
    exact c7_X6_holds, rfl, rfl, rfl⟩
theorem f_holds_4 : p1_P 2 81 2 140 [.ref 0, .int 2] [.ref 65, .int 2] :=
  ⟨(-1), w0, w0, by
    exact c9_X5_holds, by
    exact c11_X6_holds, rfl, rfl, rfl⟩
theorem f_holds_5 : p1_P 2 81 2 140 [.ref 0, .int 3] [.ref 65, .int 3] :=
  ⟨(-1), w0, w0, by
    exact c13_X5_holds, by
    exact c15_X6_holds, rfl, rfl, rfl⟩
theorem f_holds_6 : p1_P 2 81 2 140 [.ref 0, .int 4] [.ref 65, .int 4] :=
  ⟨(-1), w0, w0, by
    exact c17_X5_holds, by
    exact c19_X6_holds, rfl, rfl, rfl⟩
theorem f_holds_7 : p1_P 2 81 2 140 [.ref 0, .int 5] [.ref 65, .int 5] :=
  ⟨(-1), w0, w0, by
    exact c21_X5_holds, by
    exact c23_X6_holds, rfl, rfl, rfl⟩
theorem f_holds_8 : p1_P 2 81 2 140 [.ref 0, .int 6] [.ref 65, .int 6] :=
  ⟨(-1), w0, w0, by
    exact c25_X5_holds, by
    exact c27_X6_holds, rfl, rfl, rfl⟩
theorem f_holds_9 : p1_P 2 81 2 140 [.ref 0, .int 7] [.ref 65, .int 7] :=
  ⟨(-1), w0, w0, by
    exact c29_X5_holds, by
    exact c31_X6_holds, rfl, rfl, rfl⟩
theorem f_holds_10 (a1 : Int32) (ha1l : (8 : Int) ≤ a1.toInt) : p1_P 2 81 2 140 [.ref 0, .int a1] [.ref 65, .int a1] :=
  ⟨(-1), w0, w0, by
    refine Ef.in (md := mX5_holds) (L := [some (.ref 0), some (.int a1)]) rfl (Nat.le_of_ble_eq_true rfl) rfl ?_
    refine E_iload_n rfl rfl ?_
    have e2 : Ev ab_Z0 1 117 [.int a1] w0 (some (.int 0), w0) := by
      refine Ef.in (md := mX5_isShelf) (L := [some (.int a1)]) rfl (Nat.le_of_ble_eq_true rfl) rfl ?_
      refine E_iload_n rfl rfl ?_
      refine E_if (t := 14) (b := false) rfl rfl ((cn_lt (rfl : (a1).toInt = (a1).toInt) (by decide : (0 : Int32).toInt = 0)).trans (decide_eq_false (by omega))) ?_
      refine E_iload_n rfl rfl ?_
      refine E_bipush (x := 8) rfl (by decide) ?_
      refine E_ic (t := 14) (b := true) rfl rfl ((cn_ge (rfl : (a1).toInt = (a1).toInt) (by decide : (8 : Int32).toInt = 8)).trans (decide_eq_true (by omega))) ?_
      refine E_iconst (x := 0) rfl (by decide) ?_
      exact E_iret rfl rfl
    refine E_callS (v := some (.int 0)) (As := [.int a1]) (r0 := []) (cs2 := w0) rfl rfl rfl (Nat.le_of_ble_eq_true rfl) rfl e2 (by decide) rfl ?_
    refine E_if (t := 19) (b := true) rfl rfl (by decide) ?_
    refine E_iconst (x := (-1)) rfl (by decide) ?_
    exact E_iret rfl rfl, by
    refine Ef.in (md := mX6_holds) (L := [some (.ref 65), some (.int a1)]) rfl (Nat.le_of_ble_eq_true rfl) rfl ?_
    refine E_aload_n rfl rfl ?_
    refine E_iload_n rfl rfl ?_
    have e3 : Ev ab_Z0 1 131 [.ref 65, .int a1] w0 (some (.int 0), w0) := by
      refine Ef.in (md := mX6_isShelf) (L := [some (.ref 65), some (.int a1)]) rfl (Nat.le_of_ble_eq_true rfl) rfl ?_
      refine E_iload_n rfl rfl ?_
      refine E_if (t := 14) (b := false) rfl rfl ((cn_lt (rfl : (a1).toInt = (a1).toInt) (by decide : (0 : Int32).toInt = 0)).trans (decide_eq_false (by omega))) ?_
      refine E_iload_n rfl rfl ?_
      refine E_bipush (x := 8) rfl (by decide) ?_
      refine E_ic (t := 14) (b := true) rfl rfl ((cn_ge (rfl : (a1).toInt = (a1).toInt) (by decide : (8 : Int32).toInt = 8)).trans (decide_eq_true (by omega))) ?_
      refine E_iconst (x := 0) rfl (by decide) ?_
      exact E_iret rfl rfl
    refine E_callV (v := some (.int 0)) (As := [.ref 65, .int a1]) (r0 := []) (cs2 := w0) rfl rfl rfl (Nat.le_of_ble_eq_true rfl) rfl rfl e3 (by decide) rfl ?_
    refine E_if (t := 17) (b := true) rfl rfl (by decide) ?_
    refine E_iconst (x := (-1)) rfl (by decide) ?_
    exact E_iret rfl rfl, rfl, rfl, rfl⟩
theorem f_holds (a1 : Int32) : p1_P 2 81 2 140 [.ref 0, .int a1] [.ref 65, .int a1] := by
  rcases ab_ltge a1.toInt (0) with h | h
  · exact f_holds_1 a1 (by omega)
  rcases ab_ltge a1.toInt (8) with h | h
  · rcases ab_ltge a1.toInt (1) with h | h
    · obtain rfl : a1 = 0 := Int32.toInt_inj.mp (by rw [show ((0 : Int32).toInt = 0) by decide]; omega)
      exact f_holds_2
    rcases ab_ltge a1.toInt (2) with h | h
    · obtain rfl : a1 = 1 := Int32.toInt_inj.mp (by rw [show ((1 : Int32).toInt = 1) by decide]; omega)
      exact f_holds_3
    rcases ab_ltge a1.toInt (3) with h | h
    · obtain rfl : a1 = 2 := Int32.toInt_inj.mp (by rw [show ((2 : Int32).toInt = 2) by decide]; omega)
      exact f_holds_4
    rcases ab_ltge a1.toInt (4) with h | h
    · obtain rfl : a1 = 3 := Int32.toInt_inj.mp (by rw [show ((3 : Int32).toInt = 3) by decide]; omega)
      exact f_holds_5
    rcases ab_ltge a1.toInt (5) with h | h
    · obtain rfl : a1 = 4 := Int32.toInt_inj.mp (by rw [show ((4 : Int32).toInt = 4) by decide]; omega)
      exact f_holds_6
    rcases ab_ltge a1.toInt (6) with h | h
    · obtain rfl : a1 = 5 := Int32.toInt_inj.mp (by rw [show ((5 : Int32).toInt = 5) by decide]; omega)
      exact f_holds_7
    rcases ab_ltge a1.toInt (7) with h | h
    · obtain rfl : a1 = 6 := Int32.toInt_inj.mp (by rw [show ((6 : Int32).toInt = 6) by decide]; omega)
      exact f_holds_8
    obtain rfl : a1 = 7 := Int32.toInt_inj.mp (by rw [show ((7 : Int32).toInt = 7) by decide]; omega)
    exact f_holds_9
  exact f_holds_10 a1 (by omega)
theorem c34_X5_isFrom : Ev ab_Z0 1 115 [.int 6, .int 1, .int 7] w0 (some (.int 1), w0) := by
  refine Ef.in (md := mX5_isFrom) (L := [some (.int 6), some (.int 1), some (.int 7)]) rfl (Nat.le_of_ble_eq_true rfl) rfl ?_
  refine E_iload_n rfl rfl ?_
  refine E_iload_n rfl rfl ?_
  refine E_ic (t := 14) (b := false) rfl rfl (by decide) ?_
  refine E_iload_n rfl rfl ?_
  refine E_iload_n rfl rfl ?_
  refine E_ic (t := 14) (b := false) rfl rfl (by decide) ?_
  refine E_iconst (x := 1) rfl (by decide) ?_
  refine E_goto (t := 15) rfl rfl ?_
  exact E_iret rfl rfl
theorem c33_X5_refuse : Ev ab_Z0 2 118 [.ref 0, .int 6] w0 (some (.int (-6)), (w0.set 48 (.inl [0, 0, 0, 0, 0, 0, 1, 0]))) := by
  refine Ef.in (md := mX5_refuse) (L := [some (.ref 0), some (.int 6)]) rfl (Nat.le_of_ble_eq_true rfl) rfl ?_
  refine E_iload_n rfl rfl ?_
  refine E_iconst (x := 1) rfl (by decide) ?_
  refine E_bipush (x := 7) rfl (by decide) ?_
  refine E_callS (v := some (.int 1)) (As := [.int 6, .int 1, .int 7]) (r0 := []) (cs2 := w0) rfl rfl rfl (Nat.le_of_ble_eq_true rfl) rfl c34_X5_isFrom (by decide) rfl ?_
  refine E_if (t := 20) (b := false) rfl rfl (by decide) ?_
  refine E_aload_n rfl rfl ?_
  refine E_getfield (v := .ref 48) rfl rfl rfl (by decide) rfl ?_
  refine E_iload_n rfl rfl ?_
  refine E_dup2 rfl ⟨rfl, rfl⟩ ?_
  refine E_iaload (x := 0) (j := 6) rfl rfl (by decide) (by decide) rfl ?_
  refine E_iconst (x := 1) rfl (by decide) ?_
  refine E_iadd (z := 1) rfl (by decide) ?_
  refine E_iastore (j := 6) (cs2 := (w0.set 48 (.inl [0, 0, 0, 0, 0, 0, 1, 0]))) rfl rfl (by decide) (by decide) (Nat.le_of_ble_eq_true rfl) rfl ?_
  refine E_iload_n rfl rfl ?_
  refine E_ineg (z := (-6)) rfl (by decide) ?_
  exact E_iret rfl rfl
theorem c35_X6_no : Ev ab_Z0 1 129 [.ref 65, .int (-6)] (w0.set 48 (.inl [0, 0, 0, 0, 0, 0, 1, 0])) (some (.int (-6)), ((w0.set 48 (.inl [0, 0, 0, 0, 0, 0, 1, 0])).set 66 (.inl [0, 0, 0, 0, 0, 0, 1, 0]))) := by
  refine Ef.in (md := mX6_no) (L := [some (.ref 65), some (.int (-6))]) rfl (Nat.le_of_ble_eq_true rfl) rfl ?_
  refine E_aload_n rfl rfl ?_
  refine E_getfield (v := .ref 66) rfl rfl rfl (by decide) rfl ?_
  refine E_iload_n rfl rfl ?_
  refine E_ineg (z := 6) rfl (by decide) ?_
  refine E_dup2 rfl ⟨rfl, rfl⟩ ?_
  refine E_iaload (x := 0) (j := 6) rfl rfl (by decide) (by decide) rfl ?_
  refine E_iconst (x := 1) rfl (by decide) ?_
  refine E_iadd (z := 1) rfl (by decide) ?_
  refine E_iastore (j := 6) (cs2 := ((w0.set 48 (.inl [0, 0, 0, 0, 0, 0, 1, 0])).set 66 (.inl [0, 0, 0, 0, 0, 0, 1, 0]))) rfl rfl (by decide) (by decide) (Nat.le_of_ble_eq_true rfl) rfl ?_
  refine E_iload_n rfl rfl ?_
  exact E_iret rfl rfl
theorem c36_X5_rule : Ev ab_Z0 3 86 [.ref 0, .int 0] w0 (some (.int 0), (w0.set 1 (.inr (.inr (.inr (4, [.ref 2, .ref 3, .ref 4, .ref 5, .ref 6, .ref 7, .ref 8, .ref 9, .ref 10, .int 0, .int 0, .int 0, .int 0, .int 0, .int 1])))))) := by
  refine Ef.in (md := mX5_rule) (L := [some (.ref 0), some (.int 0), none]) rfl (Nat.le_of_ble_eq_true rfl) rfl ?_
  refine E_iload_n rfl rfl ?_
  refine E_if (t := 16) (b := true) rfl rfl (by decide) ?_
  refine E_aload_n rfl rfl ?_
  refine E_getfield (v := .ref 1) rfl rfl rfl (by decide) rfl ?_
  refine E_getfield (v := .int 0) rfl rfl rfl (by decide) rfl ?_
  refine E_istore_n (L2 := [some (.ref 0), some (.int 0), some (.int 0)]) rfl rfl ?_
  refine E_aload_n rfl rfl ?_
  refine E_getfield (v := .ref 1) rfl rfl rfl (by decide) rfl ?_
  refine E_iload_n rfl rfl ?_
  refine E_putfield (cs2 := (w0.set 1 (.inr (.inr (.inr (4, [.ref 2, .ref 3, .ref 4, .ref 5, .ref 6, .ref 7, .ref 8, .ref 9, .ref 10, .int 0, .int 0, .int 0, .int 0, .int 0, .int 1])))))) rfl rfl rfl (by decide) (Nat.le_of_ble_eq_true rfl) rfl rfl rfl rfl ?_
  refine E_iload_n rfl rfl ?_
  exact E_iret rfl rfl
theorem c38_X6_isFrom : Ev ab_Z0 1 134 [.ref 65, .int 0, .int 0, .int 1] (w0.set 1 (.inr (.inr (.inr (4, [.ref 2, .ref 3, .ref 4, .ref 5, .ref 6, .ref 7, .ref 8, .ref 9, .ref 10, .int 0, .int 0, .int 0, .int 0, .int 0, .int 1]))))) (some (.int 1), (w0.set 1 (.inr (.inr (.inr (4, [.ref 2, .ref 3, .ref 4, .ref 5, .ref 6, .ref 7, .ref 8, .ref 9, .ref 10, .int 0, .int 0, .int 0, .int 0, .int 0, .int 1])))))) := by
  refine Ef.in (md := mX6_isFrom) (L := [some (.ref 65), some (.int 0), some (.int 0), some (.int 1)]) rfl (Nat.le_of_ble_eq_true rfl) rfl ?_
  refine E_iload_n rfl rfl ?_
  refine E_iload_n rfl rfl ?_
  refine E_ic (t := 14) (b := false) rfl rfl (by decide) ?_
  refine E_iload_n rfl rfl ?_
  refine E_iload_n rfl rfl ?_
  refine E_ic (t := 14) (b := false) rfl rfl (by decide) ?_
  refine E_iconst (x := 1) rfl (by decide) ?_
  refine E_goto (t := 15) rfl rfl ?_
  exact E_iret rfl rfl
theorem c37_X6_rule : Ev ab_Z0 2 151 [.ref 65, .int 0] (w0.set 1 (.inr (.inr (.inr (4, [.ref 2, .ref 3, .ref 4, .ref 5, .ref 6, .ref 7, .ref 8, .ref 9, .ref 10, .int 0, .int 0, .int 0, .int 0, .int 0, .int 1]))))) (some (.int 0), ((w0.set 1 (.inr (.inr (.inr (4, [.ref 2, .ref 3, .ref 4, .ref 5, .ref 6, .ref 7, .ref 8, .ref 9, .ref 10, .int 0, .int 0, .int 0, .int 0, .int 0, .int 1]))))).set 65 (.inr (.inr (.inr (6, [.int 0, .int 0, .int 0, .int 0, .int 0, .int 1, .int (-1), .ref 66, .ref 67, .ref 68, .ref 69, .ref 70, .ref 71, .ref 72, .ref 73, .ref 74, .ref 75, .ref 76, .ref 77, .ref 78, .ref 79, .ref 80, .ref 81, .ref 82, .ref 83, .ref 84, .ref 85, .int 0, .int 0, .int 0, .int 0, .int 0, .ref 86, .ref 87, .ref 88, .ref 89, .int 0, .int 0, .ref 90, .ref 91, .ref 92, .ref 93, .int 0, .int 0, .int 0, .int 0, .ref 94, .int 0, .int 0])))))) := by
  refine Ef.in (md := mX6_rule) (L := [some (.ref 65), some (.int 0), none]) rfl (Nat.le_of_ble_eq_true rfl) rfl ?_
  refine E_aload_n rfl rfl ?_
  refine E_iload_n rfl rfl ?_
  refine E_iconst (x := 0) rfl (by decide) ?_
  refine E_iconst (x := 1) rfl (by decide) ?_
  refine E_callV (v := some (.int 1)) (As := [.ref 65, .int 0, .int 0, .int 1]) (r0 := []) (cs2 := (w0.set 1 (.inr (.inr (.inr (4, [.ref 2, .ref 3, .ref 4, .ref 5, .ref 6, .ref 7, .ref 8, .ref 9, .ref 10, .int 0, .int 0, .int 0, .int 0, .int 0, .int 1])))))) rfl rfl rfl (Nat.le_of_ble_eq_true rfl) rfl rfl c38_X6_isFrom (by decide) rfl ?_
  refine E_if (t := 17) (b := true) rfl rfl (by decide) ?_
  refine E_aload_n rfl rfl ?_
  refine E_getfield (v := .int 0) rfl rfl rfl (by decide) rfl ?_
  refine E_istore_n (L2 := [some (.ref 65), some (.int 0), some (.int 0)]) rfl rfl ?_
  refine E_aload_n rfl rfl ?_
  refine E_iload_n rfl rfl ?_
  refine E_putfield (cs2 := ((w0.set 1 (.inr (.inr (.inr (4, [.ref 2, .ref 3, .ref 4, .ref 5, .ref 6, .ref 7, .ref 8, .ref 9, .ref 10, .int 0, .int 0, .int 0, .int 0, .int 0, .int 1]))))).set 65 (.inr (.inr (.inr (6, [.int 0, .int 0, .int 0, .int 0, .int 0, .int 1, .int (-1), .ref 66, .ref 67, .ref 68, .ref 69, .ref 70, .ref 71, .ref 72, .ref 73, .ref 74, .ref 75, .ref 76, .ref 77, .ref 78, .ref 79, .ref 80, .ref 81, .ref 82, .ref 83, .ref 84, .ref 85, .int 0, .int 0, .int 0, .int 0, .int 0, .ref 86, .ref 87, .ref 88, .ref 89, .int 0, .int 0, .ref 90, .ref 91, .ref 92, .ref 93, .int 0, .int 0, .int 0, .int 0, .ref 94, .int 0, .int 0])))))) rfl rfl rfl (by decide) (Nat.le_of_ble_eq_true rfl) rfl rfl rfl rfl ?_
  refine E_iload_n rfl rfl ?_
  exact E_iret rfl rfl
theorem c39_X5_rule : Ev ab_Z0 3 86 [.ref 0, .int 1] w0 (some (.int 0), (w0.set 1 (.inr (.inr (.inr (4, [.ref 2, .ref 3, .ref 4, .ref 5, .ref 6, .ref 7, .ref 8, .ref 9, .ref 10, .int 0, .int 0, .int 1, .int 0, .int 0, .int 1])))))) := by
  refine Ef.in (md := mX5_rule) (L := [some (.ref 0), some (.int 1), none]) rfl (Nat.le_of_ble_eq_true rfl) rfl ?_
  refine E_iload_n rfl rfl ?_
  refine E_if (t := 16) (b := false) rfl rfl (by decide) ?_
  refine E_iload_n rfl rfl ?_
  refine E_iconst (x := 1) rfl (by decide) ?_
  refine E_ic (t := 16) (b := true) rfl rfl (by decide) ?_
  refine E_aload_n rfl rfl ?_
  refine E_getfield (v := .ref 1) rfl rfl rfl (by decide) rfl ?_
  refine E_getfield (v := .int 0) rfl rfl rfl (by decide) rfl ?_
  refine E_istore_n (L2 := [some (.ref 0), some (.int 1), some (.int 0)]) rfl rfl ?_
  refine E_aload_n rfl rfl ?_
  refine E_getfield (v := .ref 1) rfl rfl rfl (by decide) rfl ?_
  refine E_iload_n rfl rfl ?_
  refine E_putfield (cs2 := (w0.set 1 (.inr (.inr (.inr (4, [.ref 2, .ref 3, .ref 4, .ref 5, .ref 6, .ref 7, .ref 8, .ref 9, .ref 10, .int 0, .int 0, .int 1, .int 0, .int 0, .int 1])))))) rfl rfl rfl (by decide) (Nat.le_of_ble_eq_true rfl) rfl rfl rfl rfl ?_
  refine E_iload_n rfl rfl ?_
  exact E_iret rfl rfl
theorem c41_X6_isFrom : Ev ab_Z0 1 134 [.ref 65, .int 1, .int 0, .int 1] (w0.set 1 (.inr (.inr (.inr (4, [.ref 2, .ref 3, .ref 4, .ref 5, .ref 6, .ref 7, .ref 8, .ref 9, .ref 10, .int 0, .int 0, .int 1, .int 0, .int 0, .int 1]))))) (some (.int 1), (w0.set 1 (.inr (.inr (.inr (4, [.ref 2, .ref 3, .ref 4, .ref 5, .ref 6, .ref 7, .ref 8, .ref 9, .ref 10, .int 0, .int 0, .int 1, .int 0, .int 0, .int 1])))))) := by
  refine Ef.in (md := mX6_isFrom) (L := [some (.ref 65), some (.int 1), some (.int 0), some (.int 1)]) rfl (Nat.le_of_ble_eq_true rfl) rfl ?_
  refine E_iload_n rfl rfl ?_
  refine E_iload_n rfl rfl ?_
  refine E_ic (t := 14) (b := false) rfl rfl (by decide) ?_
  refine E_iload_n rfl rfl ?_
  refine E_iload_n rfl rfl ?_
  refine E_ic (t := 14) (b := false) rfl rfl (by decide) ?_
  refine E_iconst (x := 1) rfl (by decide) ?_
  refine E_goto (t := 15) rfl rfl ?_
  exact E_iret rfl rfl
theorem c40_X6_rule : Ev ab_Z0 2 151 [.ref 65, .int 1] (w0.set 1 (.inr (.inr (.inr (4, [.ref 2, .ref 3, .ref 4, .ref 5, .ref 6, .ref 7, .ref 8, .ref 9, .ref 10, .int 0, .int 0, .int 1, .int 0, .int 0, .int 1]))))) (some (.int 0), ((w0.set 1 (.inr (.inr (.inr (4, [.ref 2, .ref 3, .ref 4, .ref 5, .ref 6, .ref 7, .ref 8, .ref 9, .ref 10, .int 0, .int 0, .int 1, .int 0, .int 0, .int 1]))))).set 65 (.inr (.inr (.inr (6, [.int 0, .int 0, .int 1, .int 0, .int 0, .int 1, .int (-1), .ref 66, .ref 67, .ref 68, .ref 69, .ref 70, .ref 71, .ref 72, .ref 73, .ref 74, .ref 75, .ref 76, .ref 77, .ref 78, .ref 79, .ref 80, .ref 81, .ref 82, .ref 83, .ref 84, .ref 85, .int 0, .int 0, .int 0, .int 0, .int 0, .ref 86, .ref 87, .ref 88, .ref 89, .int 0, .int 0, .ref 90, .ref 91, .ref 92, .ref 93, .int 0, .int 0, .int 0, .int 0, .ref 94, .int 0, .int 0])))))) := by
  refine Ef.in (md := mX6_rule) (L := [some (.ref 65), some (.int 1), none]) rfl (Nat.le_of_ble_eq_true rfl) rfl ?_
  refine E_aload_n rfl rfl ?_
  refine E_iload_n rfl rfl ?_
  refine E_iconst (x := 0) rfl (by decide) ?_
  refine E_iconst (x := 1) rfl (by decide) ?_
  refine E_callV (v := some (.int 1)) (As := [.ref 65, .int 1, .int 0, .int 1]) (r0 := []) (cs2 := (w0.set 1 (.inr (.inr (.inr (4, [.ref 2, .ref 3, .ref 4, .ref 5, .ref 6, .ref 7, .ref 8, .ref 9, .ref 10, .int 0, .int 0, .int 1, .int 0, .int 0, .int 1])))))) rfl rfl rfl (Nat.le_of_ble_eq_true rfl) rfl rfl c41_X6_isFrom (by decide) rfl ?_
  refine E_if (t := 17) (b := true) rfl rfl (by decide) ?_
  refine E_aload_n rfl rfl ?_
  refine E_getfield (v := .int 0) rfl rfl rfl (by decide) rfl ?_
  refine E_istore_n (L2 := [some (.ref 65), some (.int 1), some (.int 0)]) rfl rfl ?_
  refine E_aload_n rfl rfl ?_
  refine E_iload_n rfl rfl ?_
  refine E_putfield (cs2 := ((w0.set 1 (.inr (.inr (.inr (4, [.ref 2, .ref 3, .ref 4, .ref 5, .ref 6, .ref 7, .ref 8, .ref 9, .ref 10, .int 0, .int 0, .int 1, .int 0, .int 0, .int 1]))))).set 65 (.inr (.inr (.inr (6, [.int 0, .int 0, .int 1, .int 0, .int 0, .int 1, .int (-1), .ref 66, .ref 67, .ref 68, .ref 69, .ref 70, .ref 71, .ref 72, .ref 73, .ref 74, .ref 75, .ref 76, .ref 77, .ref 78, .ref 79, .ref 80, .ref 81, .ref 82, .ref 83, .ref 84, .ref 85, .int 0, .int 0, .int 0, .int 0, .int 0, .ref 86, .ref 87, .ref 88, .ref 89, .int 0, .int 0, .ref 90, .ref 91, .ref 92, .ref 93, .int 0, .int 0, .int 0, .int 0, .ref 94, .int 0, .int 0])))))) rfl rfl rfl (by decide) (Nat.le_of_ble_eq_true rfl) rfl rfl rfl rfl ?_
  refine E_iload_n rfl rfl ?_
  exact E_iret rfl rfl
theorem f_rule_1 (a1 : Int32) (ha1h : a1.toInt ≤ -1) : p1_P 3 86 2 151 [.ref 0, .int a1] [.ref 65, .int a1] :=
  ⟨(-6), (w0.set 48 (.inl [0, 0, 0, 0, 0, 0, 1, 0])), ((w0.set 48 (.inl [0, 0, 0, 0, 0, 0, 1, 0])).set 66 (.inl [0, 0, 0, 0, 0, 0, 1, 0])), by
    refine Ef.in (md := mX5_rule) (L := [some (.ref 0), some (.int a1), none]) rfl (Nat.le_of_ble_eq_true rfl) rfl ?_
    refine E_iload_n rfl rfl ?_
    refine E_if (t := 16) (b := false) rfl rfl ((cn_eq (rfl : (a1).toInt = (a1).toInt) (by decide : (0 : Int32).toInt = 0)).trans (decide_eq_false (by omega))) ?_
    refine E_iload_n rfl rfl ?_
    refine E_iconst (x := 1) rfl (by decide) ?_
    refine E_ic (t := 16) (b := false) rfl rfl ((cn_eq (rfl : (a1).toInt = (a1).toInt) (by decide : (1 : Int32).toInt = 1)).trans (decide_eq_false (by omega))) ?_
    refine E_aload_n rfl rfl ?_
    refine E_bipush (x := 6) rfl (by decide) ?_
    refine E_callV (v := some (.int (-6))) (As := [.ref 0, .int 6]) (r0 := []) (cs2 := (w0.set 48 (.inl [0, 0, 0, 0, 0, 0, 1, 0]))) rfl rfl rfl (Nat.le_of_ble_eq_true rfl) rfl rfl c33_X5_refuse (by decide) (by simp only [List.length_set]) ?_
    exact E_iret rfl rfl, by
    refine Ef.in (md := mX6_rule) (L := [some (.ref 65), some (.int a1), none]) rfl (Nat.le_of_ble_eq_true rfl) rfl ?_
    refine E_aload_n rfl rfl ?_
    refine E_iload_n rfl rfl ?_
    refine E_iconst (x := 0) rfl (by decide) ?_
    refine E_iconst (x := 1) rfl (by decide) ?_
    have e5 : Ev ab_Z0 1 134 [.ref 65, .int a1, .int 0, .int 1] (w0.set 48 (.inl [0, 0, 0, 0, 0, 0, 1, 0])) (some (.int 0), (w0.set 48 (.inl [0, 0, 0, 0, 0, 0, 1, 0]))) := by
      refine Ef.in (md := mX6_isFrom) (L := [some (.ref 65), some (.int a1), some (.int 0), some (.int 1)]) rfl (Nat.le_of_ble_eq_true rfl) rfl ?_
      refine E_iload_n rfl rfl ?_
      refine E_iload_n rfl rfl ?_
      refine E_ic (t := 14) (b := true) rfl rfl ((cn_lt (rfl : (a1).toInt = (a1).toInt) (by decide : (0 : Int32).toInt = 0)).trans (decide_eq_true (by omega))) ?_
      refine E_iconst (x := 0) rfl (by decide) ?_
      exact E_iret rfl rfl
    refine E_callV (v := some (.int 0)) (As := [.ref 65, .int a1, .int 0, .int 1]) (r0 := []) (cs2 := (w0.set 48 (.inl [0, 0, 0, 0, 0, 0, 1, 0]))) rfl rfl rfl (Nat.le_of_ble_eq_true rfl) rfl rfl e5 (by decide) rfl ?_
    refine E_if (t := 17) (b := false) rfl rfl (by decide) ?_
    refine E_aload_n rfl rfl ?_
    refine E_bipush (x := (-6)) rfl (by decide) ?_
    refine E_callV (v := some (.int (-6))) (As := [.ref 65, .int (-6)]) (r0 := []) (cs2 := ((w0.set 48 (.inl [0, 0, 0, 0, 0, 0, 1, 0])).set 66 (.inl [0, 0, 0, 0, 0, 0, 1, 0]))) rfl rfl rfl (Nat.le_of_ble_eq_true rfl) rfl rfl c35_X6_no (by decide) (by simp only [List.length_set]) ?_
    exact E_iret rfl rfl, (by simp only [List.length_set]; rfl), (by simp only [List.length_set]; rfl), ((ab_szs rfl).trans ((ab_szs rfl).trans rfl))⟩
theorem f_rule_2 : p1_P 3 86 2 151 [.ref 0, .int 0] [.ref 65, .int 0] :=
  ⟨0, (w0.set 1 (.inr (.inr (.inr (4, [.ref 2, .ref 3, .ref 4, .ref 5, .ref 6, .ref 7, .ref 8, .ref 9, .ref 10, .int 0, .int 0, .int 0, .int 0, .int 0, .int 1]))))), ((w0.set 1 (.inr (.inr (.inr (4, [.ref 2, .ref 3, .ref 4, .ref 5, .ref 6, .ref 7, .ref 8, .ref 9, .ref 10, .int 0, .int 0, .int 0, .int 0, .int 0, .int 1]))))).set 65 (.inr (.inr (.inr (6, [.int 0, .int 0, .int 0, .int 0, .int 0, .int 1, .int (-1), .ref 66, .ref 67, .ref 68, .ref 69, .ref 70, .ref 71, .ref 72, .ref 73, .ref 74, .ref 75, .ref 76, .ref 77, .ref 78, .ref 79, .ref 80, .ref 81, .ref 82, .ref 83, .ref 84, .ref 85, .int 0, .int 0, .int 0, .int 0, .int 0, .ref 86, .ref 87, .ref 88, .ref 89, .int 0, .int 0, .ref 90, .ref 91, .ref 92, .ref 93, .int 0, .int 0, .int 0, .int 0, .ref 94, .int 0, .int 0]))))), by
    exact c36_X5_rule, by
    exact c37_X6_rule, (by simp only [List.length_set]; rfl), (by simp only [List.length_set]; rfl), ((ab_szs rfl).trans ((ab_szs rfl).trans rfl))⟩
theorem f_rule_3 : p1_P 3 86 2 151 [.ref 0, .int 1] [.ref 65, .int 1] :=
  ⟨0, (w0.set 1 (.inr (.inr (.inr (4, [.ref 2, .ref 3, .ref 4, .ref 5, .ref 6, .ref 7, .ref 8, .ref 9, .ref 10, .int 0, .int 0, .int 1, .int 0, .int 0, .int 1]))))), ((w0.set 1 (.inr (.inr (.inr (4, [.ref 2, .ref 3, .ref 4, .ref 5, .ref 6, .ref 7, .ref 8, .ref 9, .ref 10, .int 0, .int 0, .int 1, .int 0, .int 0, .int 1]))))).set 65 (.inr (.inr (.inr (6, [.int 0, .int 0, .int 1, .int 0, .int 0, .int 1, .int (-1), .ref 66, .ref 67, .ref 68, .ref 69, .ref 70, .ref 71, .ref 72, .ref 73, .ref 74, .ref 75, .ref 76, .ref 77, .ref 78, .ref 79, .ref 80, .ref 81, .ref 82, .ref 83, .ref 84, .ref 85, .int 0, .int 0, .int 0, .int 0, .int 0, .ref 86, .ref 87, .ref 88, .ref 89, .int 0, .int 0, .ref 90, .ref 91, .ref 92, .ref 93, .int 0, .int 0, .int 0, .int 0, .ref 94, .int 0, .int 0]))))), by
    exact c39_X5_rule, by
    exact c40_X6_rule, (by simp only [List.length_set]; rfl), (by simp only [List.length_set]; rfl), ((ab_szs rfl).trans ((ab_szs rfl).trans rfl))⟩
theorem f_rule_4 (a1 : Int32) (ha1l : (2 : Int) ≤ a1.toInt) : p1_P 3 86 2 151 [.ref 0, .int a1] [.ref 65, .int a1] :=
  ⟨(-6), (w0.set 48 (.inl [0, 0, 0, 0, 0, 0, 1, 0])), ((w0.set 48 (.inl [0, 0, 0, 0, 0, 0, 1, 0])).set 66 (.inl [0, 0, 0, 0, 0, 0, 1, 0])), by
    refine Ef.in (md := mX5_rule) (L := [some (.ref 0), some (.int a1), none]) rfl (Nat.le_of_ble_eq_true rfl) rfl ?_
    refine E_iload_n rfl rfl ?_
    refine E_if (t := 16) (b := false) rfl rfl ((cn_eq (rfl : (a1).toInt = (a1).toInt) (by decide : (0 : Int32).toInt = 0)).trans (decide_eq_false (by omega))) ?_
    refine E_iload_n rfl rfl ?_
    refine E_iconst (x := 1) rfl (by decide) ?_
    refine E_ic (t := 16) (b := false) rfl rfl ((cn_eq (rfl : (a1).toInt = (a1).toInt) (by decide : (1 : Int32).toInt = 1)).trans (decide_eq_false (by omega))) ?_
    refine E_aload_n rfl rfl ?_
    refine E_bipush (x := 6) rfl (by decide) ?_
    refine E_callV (v := some (.int (-6))) (As := [.ref 0, .int 6]) (r0 := []) (cs2 := (w0.set 48 (.inl [0, 0, 0, 0, 0, 0, 1, 0]))) rfl rfl rfl (Nat.le_of_ble_eq_true rfl) rfl rfl c33_X5_refuse (by decide) (by simp only [List.length_set]) ?_
    exact E_iret rfl rfl, by
    refine Ef.in (md := mX6_rule) (L := [some (.ref 65), some (.int a1), none]) rfl (Nat.le_of_ble_eq_true rfl) rfl ?_
    refine E_aload_n rfl rfl ?_
    refine E_iload_n rfl rfl ?_
    refine E_iconst (x := 0) rfl (by decide) ?_
    refine E_iconst (x := 1) rfl (by decide) ?_
    have e5 : Ev ab_Z0 1 134 [.ref 65, .int a1, .int 0, .int 1] (w0.set 48 (.inl [0, 0, 0, 0, 0, 0, 1, 0])) (some (.int 0), (w0.set 48 (.inl [0, 0, 0, 0, 0, 0, 1, 0]))) := by
      refine Ef.in (md := mX6_isFrom) (L := [some (.ref 65), some (.int a1), some (.int 0), some (.int 1)]) rfl (Nat.le_of_ble_eq_true rfl) rfl ?_
      refine E_iload_n rfl rfl ?_
      refine E_iload_n rfl rfl ?_
      refine E_ic (t := 14) (b := false) rfl rfl ((cn_lt (rfl : (a1).toInt = (a1).toInt) (by decide : (0 : Int32).toInt = 0)).trans (decide_eq_false (by omega))) ?_
      refine E_iload_n rfl rfl ?_
      refine E_iload_n rfl rfl ?_
      refine E_ic (t := 14) (b := true) rfl rfl ((cn_gt (rfl : (a1).toInt = (a1).toInt) (by decide : (1 : Int32).toInt = 1)).trans (decide_eq_true (by omega))) ?_
      refine E_iconst (x := 0) rfl (by decide) ?_
      exact E_iret rfl rfl
    refine E_callV (v := some (.int 0)) (As := [.ref 65, .int a1, .int 0, .int 1]) (r0 := []) (cs2 := (w0.set 48 (.inl [0, 0, 0, 0, 0, 0, 1, 0]))) rfl rfl rfl (Nat.le_of_ble_eq_true rfl) rfl rfl e5 (by decide) rfl ?_
    refine E_if (t := 17) (b := false) rfl rfl (by decide) ?_
    refine E_aload_n rfl rfl ?_
    refine E_bipush (x := (-6)) rfl (by decide) ?_
    refine E_callV (v := some (.int (-6))) (As := [.ref 65, .int (-6)]) (r0 := []) (cs2 := ((w0.set 48 (.inl [0, 0, 0, 0, 0, 0, 1, 0])).set 66 (.inl [0, 0, 0, 0, 0, 0, 1, 0]))) rfl rfl rfl (Nat.le_of_ble_eq_true rfl) rfl rfl c35_X6_no (by decide) (by simp only [List.length_set]) ?_
    exact E_iret rfl rfl, (by simp only [List.length_set]; rfl), (by simp only [List.length_set]; rfl), ((ab_szs rfl).trans ((ab_szs rfl).trans rfl))⟩
theorem f_rule (a1 : Int32) : p1_P 3 86 2 151 [.ref 0, .int a1] [.ref 65, .int a1] := by
  rcases ab_ltge a1.toInt (0) with h | h
  · exact f_rule_1 a1 (by omega)
  rcases ab_ltge a1.toInt (1) with h | h
  · obtain rfl : a1 = 0 := Int32.toInt_inj.mp (by rw [show ((0 : Int32).toInt = 0) by decide]; omega)
    exact f_rule_2
  rcases ab_ltge a1.toInt (2) with h | h
  · obtain rfl : a1 = 1 := Int32.toInt_inj.mp (by rw [show ((1 : Int32).toInt = 1) by decide]; omega)
    exact f_rule_3
  exact f_rule_4 a1 (by omega)
theorem c43_X5_isFrom : Ev ab_Z0 1 115 [.int 1, .int 1, .int 7] w0 (some (.int 1), w0) := by
  refine Ef.in (md := mX5_isFrom) (L := [some (.int 1), some (.int 1), some (.int 7)]) rfl (Nat.le_of_ble_eq_true rfl) rfl ?_
  refine E_iload_n rfl rfl ?_
  refine E_iload_n rfl rfl ?_
  refine E_ic (t := 14) (b := false) rfl rfl (by decide) ?_
  refine E_iload_n rfl rfl ?_
  refine E_iload_n rfl rfl ?_
  refine E_ic (t := 14) (b := false) rfl rfl (by decide) ?_
  refine E_iconst (x := 1) rfl (by decide) ?_
  refine E_goto (t := 15) rfl rfl ?_
  exact E_iret rfl rfl
theorem c42_X5_refuse : Ev ab_Z0 2 118 [.ref 0, .int 1] w0 (some (.int (-1)), (w0.set 48 (.inl [0, 1, 0, 0, 0, 0, 0, 0]))) := by
  refine Ef.in (md := mX5_refuse) (L := [some (.ref 0), some (.int 1)]) rfl (Nat.le_of_ble_eq_true rfl) rfl ?_
  refine E_iload_n rfl rfl ?_
  refine E_iconst (x := 1) rfl (by decide) ?_
  refine E_bipush (x := 7) rfl (by decide) ?_
  refine E_callS (v := some (.int 1)) (As := [.int 1, .int 1, .int 7]) (r0 := []) (cs2 := w0) rfl rfl rfl (Nat.le_of_ble_eq_true rfl) rfl c43_X5_isFrom (by decide) rfl ?_
  refine E_if (t := 20) (b := false) rfl rfl (by decide) ?_
  refine E_aload_n rfl rfl ?_
  refine E_getfield (v := .ref 48) rfl rfl rfl (by decide) rfl ?_
  refine E_iload_n rfl rfl ?_
  refine E_dup2 rfl ⟨rfl, rfl⟩ ?_
  refine E_iaload (x := 0) (j := 1) rfl rfl (by decide) (by decide) rfl ?_
  refine E_iconst (x := 1) rfl (by decide) ?_
  refine E_iadd (z := 1) rfl (by decide) ?_
  refine E_iastore (j := 1) (cs2 := (w0.set 48 (.inl [0, 1, 0, 0, 0, 0, 0, 0]))) rfl rfl (by decide) (by decide) (Nat.le_of_ble_eq_true rfl) rfl ?_
  refine E_iload_n rfl rfl ?_
  refine E_ineg (z := (-1)) rfl (by decide) ?_
  exact E_iret rfl rfl
theorem c44_X6_no : Ev ab_Z0 1 129 [.ref 65, .int (-1)] (w0.set 48 (.inl [0, 1, 0, 0, 0, 0, 0, 0])) (some (.int (-1)), ((w0.set 48 (.inl [0, 1, 0, 0, 0, 0, 0, 0])).set 66 (.inl [0, 1, 0, 0, 0, 0, 0, 0]))) := by
  refine Ef.in (md := mX6_no) (L := [some (.ref 65), some (.int (-1))]) rfl (Nat.le_of_ble_eq_true rfl) rfl ?_
  refine E_aload_n rfl rfl ?_
  refine E_getfield (v := .ref 66) rfl rfl rfl (by decide) rfl ?_
  refine E_iload_n rfl rfl ?_
  refine E_ineg (z := 1) rfl (by decide) ?_
  refine E_dup2 rfl ⟨rfl, rfl⟩ ?_
  refine E_iaload (x := 0) (j := 1) rfl rfl (by decide) (by decide) rfl ?_
  refine E_iconst (x := 1) rfl (by decide) ?_
  refine E_iadd (z := 1) rfl (by decide) ?_
  refine E_iastore (j := 1) (cs2 := ((w0.set 48 (.inl [0, 1, 0, 0, 0, 0, 0, 0])).set 66 (.inl [0, 1, 0, 0, 0, 0, 0, 0]))) rfl rfl (by decide) (by decide) (Nat.le_of_ble_eq_true rfl) rfl ?_
  refine E_iload_n rfl rfl ?_
  exact E_iret rfl rfl
theorem c45_X4_hasRoomForPerson : Ev ab_Z0 1 53 [.ref 1] w0 (some (.int 1), w0) := by
  refine Ef.in (md := mX4_hasRoomForPerson) (L := [some (.ref 1)]) rfl (Nat.le_of_ble_eq_true rfl) rfl ?_
  refine E_aload_n rfl rfl ?_
  refine E_getfield (v := .int 0) rfl rfl rfl (by decide) rfl ?_
  refine E_bipush (x := 6) rfl (by decide) ?_
  refine E_ic (t := 13) (b := false) rfl rfl (by decide) ?_
  refine E_iconst (x := 1) rfl (by decide) ?_
  refine E_goto (t := 14) rfl rfl ?_
  exact E_iret rfl rfl
theorem f_person_1 (a1 a2 a3 : Int32) (ha3h : a3.toInt ≤ -1) : p1_P 3 84 2 149 [.ref 0, .int a1, .int a2, .int a3] [.ref 65, .int a1, .int a2, .int a3] :=
  ⟨(-1), (w0.set 48 (.inl [0, 1, 0, 0, 0, 0, 0, 0])), ((w0.set 48 (.inl [0, 1, 0, 0, 0, 0, 0, 0])).set 66 (.inl [0, 1, 0, 0, 0, 0, 0, 0])), by
    refine Ef.in (md := mX5_person) (L := [some (.ref 0), some (.int a1), some (.int a2), some (.int a3)]) rfl (Nat.le_of_ble_eq_true rfl) rfl ?_
    refine E_iload_n rfl rfl ?_
    have e2 : Ev ab_Z0 1 47 [.int a3] w0 (some (.int 0), w0) := by
      refine Ef.in (md := mX4_isWish) (L := [some (.int a3)]) rfl (Nat.le_of_ble_eq_true rfl) rfl ?_
      refine E_iload_n rfl rfl ?_
      refine E_if (t := 14) (b := true) rfl rfl ((cn_lt (rfl : (a3).toInt = (a3).toInt) (by decide : (0 : Int32).toInt = 0)).trans (decide_eq_true (by omega))) ?_
      refine E_iconst (x := 0) rfl (by decide) ?_
      exact E_iret rfl rfl
    refine E_callS (v := some (.int 0)) (As := [.int a3]) (r0 := []) (cs2 := w0) rfl rfl rfl (Nat.le_of_ble_eq_true rfl) rfl e2 (by decide) rfl ?_
    refine E_if (t := 13) (b := false) rfl rfl (by decide) ?_
    refine E_aload_n rfl rfl ?_
    refine E_iconst (x := 1) rfl (by decide) ?_
    refine E_callV (v := some (.int (-1))) (As := [.ref 0, .int 1]) (r0 := []) (cs2 := (w0.set 48 (.inl [0, 1, 0, 0, 0, 0, 0, 0]))) rfl rfl rfl (Nat.le_of_ble_eq_true rfl) rfl rfl c42_X5_refuse (by decide) (by simp only [List.length_set]) ?_
    exact E_iret rfl rfl, by
    refine Ef.in (md := mX6_person) (L := [some (.ref 65), some (.int a1), some (.int a2), some (.int a3)]) rfl (Nat.le_of_ble_eq_true rfl) rfl ?_
    refine E_aload_n rfl rfl ?_
    refine E_iload_n rfl rfl ?_
    refine E_iconst (x := 0) rfl (by decide) ?_
    refine E_bipush (x := 7) rfl (by decide) ?_
    have e5 : Ev ab_Z0 1 134 [.ref 65, .int a3, .int 0, .int 7] (w0.set 48 (.inl [0, 1, 0, 0, 0, 0, 0, 0])) (some (.int 0), (w0.set 48 (.inl [0, 1, 0, 0, 0, 0, 0, 0]))) := by
      refine Ef.in (md := mX6_isFrom) (L := [some (.ref 65), some (.int a3), some (.int 0), some (.int 7)]) rfl (Nat.le_of_ble_eq_true rfl) rfl ?_
      refine E_iload_n rfl rfl ?_
      refine E_iload_n rfl rfl ?_
      refine E_ic (t := 14) (b := true) rfl rfl ((cn_lt (rfl : (a3).toInt = (a3).toInt) (by decide : (0 : Int32).toInt = 0)).trans (decide_eq_true (by omega))) ?_
      refine E_iconst (x := 0) rfl (by decide) ?_
      exact E_iret rfl rfl
    refine E_callV (v := some (.int 0)) (As := [.ref 65, .int a3, .int 0, .int 7]) (r0 := []) (cs2 := (w0.set 48 (.inl [0, 1, 0, 0, 0, 0, 0, 0]))) rfl rfl rfl (Nat.le_of_ble_eq_true rfl) rfl rfl e5 (by decide) rfl ?_
    refine E_if (t := 17) (b := false) rfl rfl (by decide) ?_
    refine E_aload_n rfl rfl ?_
    refine E_iconst (x := (-1)) rfl (by decide) ?_
    refine E_callV (v := some (.int (-1))) (As := [.ref 65, .int (-1)]) (r0 := []) (cs2 := ((w0.set 48 (.inl [0, 1, 0, 0, 0, 0, 0, 0])).set 66 (.inl [0, 1, 0, 0, 0, 0, 0, 0]))) rfl rfl rfl (Nat.le_of_ble_eq_true rfl) rfl rfl c44_X6_no (by decide) (by simp only [List.length_set]) ?_
    exact E_iret rfl rfl, (by simp only [List.length_set]; rfl), (by simp only [List.length_set]; rfl), ((ab_szs rfl).trans ((ab_szs rfl).trans rfl))⟩
theorem f_person_2 (a1 a2 a3 : Int32) (ha1h : a1.toInt ≤ -1) (ha3l : (0 : Int) ≤ a3.toInt) (ha3h : a3.toInt ≤ 7) : p1_P 3 84 2 149 [.ref 0, .int a1, .int a2, .int a3] [.ref 65, .int a1, .int a2, .int a3] :=
  ⟨(-6), (w0.set 48 (.inl [0, 0, 0, 0, 0, 0, 1, 0])), ((w0.set 48 (.inl [0, 0, 0, 0, 0, 0, 1, 0])).set 66 (.inl [0, 0, 0, 0, 0, 0, 1, 0])), by
    refine Ef.in (md := mX5_person) (L := [some (.ref 0), some (.int a1), some (.int a2), some (.int a3)]) rfl (Nat.le_of_ble_eq_true rfl) rfl ?_
    refine E_iload_n rfl rfl ?_
    have e2 : Ev ab_Z0 1 47 [.int a3] w0 (some (.int 1), w0) := by
      refine Ef.in (md := mX4_isWish) (L := [some (.int a3)]) rfl (Nat.le_of_ble_eq_true rfl) rfl ?_
      refine E_iload_n rfl rfl ?_
      refine E_if (t := 14) (b := false) rfl rfl ((cn_lt (rfl : (a3).toInt = (a3).toInt) (by decide : (0 : Int32).toInt = 0)).trans (decide_eq_false (by omega))) ?_
      refine E_iload_n rfl rfl ?_
      refine E_bipush (x := 8) rfl (by decide) ?_
      refine E_ic (t := 14) (b := false) rfl rfl ((cn_ge (rfl : (a3).toInt = (a3).toInt) (by decide : (8 : Int32).toInt = 8)).trans (decide_eq_false (by omega))) ?_
      refine E_iconst (x := 1) rfl (by decide) ?_
      refine E_goto (t := 15) rfl rfl ?_
      exact E_iret rfl rfl
    refine E_callS (v := some (.int 1)) (As := [.int a3]) (r0 := []) (cs2 := w0) rfl rfl rfl (Nat.le_of_ble_eq_true rfl) rfl e2 (by decide) rfl ?_
    refine E_if (t := 13) (b := true) rfl rfl (by decide) ?_
    refine E_iload_n rfl rfl ?_
    refine E_iconst (x := 0) rfl (by decide) ?_
    refine E_bipush (x := 99) rfl (by decide) ?_
    have e17 : Ev ab_Z0 1 115 [.int a1, .int 0, .int 99] w0 (some (.int 0), w0) := by
      refine Ef.in (md := mX5_isFrom) (L := [some (.int a1), some (.int 0), some (.int 99)]) rfl (Nat.le_of_ble_eq_true rfl) rfl ?_
      refine E_iload_n rfl rfl ?_
      refine E_iload_n rfl rfl ?_
      refine E_ic (t := 14) (b := true) rfl rfl ((cn_lt (rfl : (a1).toInt = (a1).toInt) (by decide : (0 : Int32).toInt = 0)).trans (decide_eq_true (by omega))) ?_
      refine E_iconst (x := 0) rfl (by decide) ?_
      exact E_iret rfl rfl
    refine E_callS (v := some (.int 0)) (As := [.int a1, .int 0, .int 99]) (r0 := []) (cs2 := w0) rfl rfl rfl (Nat.le_of_ble_eq_true rfl) rfl e17 (by decide) rfl ?_
    refine E_if (t := 33) (b := true) rfl rfl (by decide) ?_
    refine E_aload_n rfl rfl ?_
    refine E_bipush (x := 6) rfl (by decide) ?_
    refine E_callV (v := some (.int (-6))) (As := [.ref 0, .int 6]) (r0 := []) (cs2 := (w0.set 48 (.inl [0, 0, 0, 0, 0, 0, 1, 0]))) rfl rfl rfl (Nat.le_of_ble_eq_true rfl) rfl rfl c33_X5_refuse (by decide) (by simp only [List.length_set]) ?_
    exact E_iret rfl rfl, by
    refine Ef.in (md := mX6_person) (L := [some (.ref 65), some (.int a1), some (.int a2), some (.int a3)]) rfl (Nat.le_of_ble_eq_true rfl) rfl ?_
    refine E_aload_n rfl rfl ?_
    refine E_iload_n rfl rfl ?_
    refine E_iconst (x := 0) rfl (by decide) ?_
    refine E_bipush (x := 7) rfl (by decide) ?_
    have e5 : Ev ab_Z0 1 134 [.ref 65, .int a3, .int 0, .int 7] (w0.set 48 (.inl [0, 0, 0, 0, 0, 0, 1, 0])) (some (.int 1), (w0.set 48 (.inl [0, 0, 0, 0, 0, 0, 1, 0]))) := by
      refine Ef.in (md := mX6_isFrom) (L := [some (.ref 65), some (.int a3), some (.int 0), some (.int 7)]) rfl (Nat.le_of_ble_eq_true rfl) rfl ?_
      refine E_iload_n rfl rfl ?_
      refine E_iload_n rfl rfl ?_
      refine E_ic (t := 14) (b := false) rfl rfl ((cn_lt (rfl : (a3).toInt = (a3).toInt) (by decide : (0 : Int32).toInt = 0)).trans (decide_eq_false (by omega))) ?_
      refine E_iload_n rfl rfl ?_
      refine E_iload_n rfl rfl ?_
      refine E_ic (t := 14) (b := false) rfl rfl ((cn_gt (rfl : (a3).toInt = (a3).toInt) (by decide : (7 : Int32).toInt = 7)).trans (decide_eq_false (by omega))) ?_
      refine E_iconst (x := 1) rfl (by decide) ?_
      refine E_goto (t := 15) rfl rfl ?_
      exact E_iret rfl rfl
    refine E_callV (v := some (.int 1)) (As := [.ref 65, .int a3, .int 0, .int 7]) (r0 := []) (cs2 := (w0.set 48 (.inl [0, 0, 0, 0, 0, 0, 1, 0]))) rfl rfl rfl (Nat.le_of_ble_eq_true rfl) rfl rfl e5 (by decide) rfl ?_
    refine E_if (t := 17) (b := true) rfl rfl (by decide) ?_
    refine E_aload_n rfl rfl ?_
    refine E_iload_n rfl rfl ?_
    refine E_iconst (x := 0) rfl (by decide) ?_
    refine E_bipush (x := 99) rfl (by decide) ?_
    have e22 : Ev ab_Z0 1 134 [.ref 65, .int a1, .int 0, .int 99] (w0.set 48 (.inl [0, 0, 0, 0, 0, 0, 1, 0])) (some (.int 0), (w0.set 48 (.inl [0, 0, 0, 0, 0, 0, 1, 0]))) := by
      refine Ef.in (md := mX6_isFrom) (L := [some (.ref 65), some (.int a1), some (.int 0), some (.int 99)]) rfl (Nat.le_of_ble_eq_true rfl) rfl ?_
      refine E_iload_n rfl rfl ?_
      refine E_iload_n rfl rfl ?_
      refine E_ic (t := 14) (b := true) rfl rfl ((cn_lt (rfl : (a1).toInt = (a1).toInt) (by decide : (0 : Int32).toInt = 0)).trans (decide_eq_true (by omega))) ?_
      refine E_iconst (x := 0) rfl (by decide) ?_
      exact E_iret rfl rfl
    refine E_callV (v := some (.int 0)) (As := [.ref 65, .int a1, .int 0, .int 99]) (r0 := []) (cs2 := (w0.set 48 (.inl [0, 0, 0, 0, 0, 0, 1, 0]))) rfl rfl rfl (Nat.le_of_ble_eq_true rfl) rfl rfl e22 (by decide) rfl ?_
    refine E_if (t := 39) (b := true) rfl rfl (by decide) ?_
    refine E_aload_n rfl rfl ?_
    refine E_bipush (x := (-6)) rfl (by decide) ?_
    refine E_callV (v := some (.int (-6))) (As := [.ref 65, .int (-6)]) (r0 := []) (cs2 := ((w0.set 48 (.inl [0, 0, 0, 0, 0, 0, 1, 0])).set 66 (.inl [0, 0, 0, 0, 0, 0, 1, 0]))) rfl rfl rfl (Nat.le_of_ble_eq_true rfl) rfl rfl c35_X6_no (by decide) (by simp only [List.length_set]) ?_
    exact E_iret rfl rfl, (by simp only [List.length_set]; rfl), (by simp only [List.length_set]; rfl), ((ab_szs rfl).trans ((ab_szs rfl).trans rfl))⟩
theorem f_person_3 (a1 a2 a3 : Int32) (ha1l : (0 : Int) ≤ a1.toInt) (ha1h : a1.toInt ≤ 99) (ha2h : a2.toInt ≤ -1) (ha3l : (0 : Int) ≤ a3.toInt) (ha3h : a3.toInt ≤ 7) : p1_P 3 84 2 149 [.ref 0, .int a1, .int a2, .int a3] [.ref 65, .int a1, .int a2, .int a3] :=
  ⟨(-6), (w0.set 48 (.inl [0, 0, 0, 0, 0, 0, 1, 0])), ((w0.set 48 (.inl [0, 0, 0, 0, 0, 0, 1, 0])).set 66 (.inl [0, 0, 0, 0, 0, 0, 1, 0])), by
    refine Ef.in (md := mX5_person) (L := [some (.ref 0), some (.int a1), some (.int a2), some (.int a3)]) rfl (Nat.le_of_ble_eq_true rfl) rfl ?_
    refine E_iload_n rfl rfl ?_
    have e2 : Ev ab_Z0 1 47 [.int a3] w0 (some (.int 1), w0) := by
      refine Ef.in (md := mX4_isWish) (L := [some (.int a3)]) rfl (Nat.le_of_ble_eq_true rfl) rfl ?_
      refine E_iload_n rfl rfl ?_
      refine E_if (t := 14) (b := false) rfl rfl ((cn_lt (rfl : (a3).toInt = (a3).toInt) (by decide : (0 : Int32).toInt = 0)).trans (decide_eq_false (by omega))) ?_
      refine E_iload_n rfl rfl ?_
      refine E_bipush (x := 8) rfl (by decide) ?_
      refine E_ic (t := 14) (b := false) rfl rfl ((cn_ge (rfl : (a3).toInt = (a3).toInt) (by decide : (8 : Int32).toInt = 8)).trans (decide_eq_false (by omega))) ?_
      refine E_iconst (x := 1) rfl (by decide) ?_
      refine E_goto (t := 15) rfl rfl ?_
      exact E_iret rfl rfl
    refine E_callS (v := some (.int 1)) (As := [.int a3]) (r0 := []) (cs2 := w0) rfl rfl rfl (Nat.le_of_ble_eq_true rfl) rfl e2 (by decide) rfl ?_
    refine E_if (t := 13) (b := true) rfl rfl (by decide) ?_
    refine E_iload_n rfl rfl ?_
    refine E_iconst (x := 0) rfl (by decide) ?_
    refine E_bipush (x := 99) rfl (by decide) ?_
    have e17 : Ev ab_Z0 1 115 [.int a1, .int 0, .int 99] w0 (some (.int 1), w0) := by
      refine Ef.in (md := mX5_isFrom) (L := [some (.int a1), some (.int 0), some (.int 99)]) rfl (Nat.le_of_ble_eq_true rfl) rfl ?_
      refine E_iload_n rfl rfl ?_
      refine E_iload_n rfl rfl ?_
      refine E_ic (t := 14) (b := false) rfl rfl ((cn_lt (rfl : (a1).toInt = (a1).toInt) (by decide : (0 : Int32).toInt = 0)).trans (decide_eq_false (by omega))) ?_
      refine E_iload_n rfl rfl ?_
      refine E_iload_n rfl rfl ?_
      refine E_ic (t := 14) (b := false) rfl rfl ((cn_gt (rfl : (a1).toInt = (a1).toInt) (by decide : (99 : Int32).toInt = 99)).trans (decide_eq_false (by omega))) ?_
      refine E_iconst (x := 1) rfl (by decide) ?_
      refine E_goto (t := 15) rfl rfl ?_
      exact E_iret rfl rfl
    refine E_callS (v := some (.int 1)) (As := [.int a1, .int 0, .int 99]) (r0 := []) (cs2 := w0) rfl rfl rfl (Nat.le_of_ble_eq_true rfl) rfl e17 (by decide) rfl ?_
    refine E_if (t := 33) (b := false) rfl rfl (by decide) ?_
    refine E_iload_n rfl rfl ?_
    refine E_iconst (x := 0) rfl (by decide) ?_
    refine E_bipush (x := 9) rfl (by decide) ?_
    have e33 : Ev ab_Z0 1 115 [.int a2, .int 0, .int 9] w0 (some (.int 0), w0) := by
      refine Ef.in (md := mX5_isFrom) (L := [some (.int a2), some (.int 0), some (.int 9)]) rfl (Nat.le_of_ble_eq_true rfl) rfl ?_
      refine E_iload_n rfl rfl ?_
      refine E_iload_n rfl rfl ?_
      refine E_ic (t := 14) (b := true) rfl rfl ((cn_lt (rfl : (a2).toInt = (a2).toInt) (by decide : (0 : Int32).toInt = 0)).trans (decide_eq_true (by omega))) ?_
      refine E_iconst (x := 0) rfl (by decide) ?_
      exact E_iret rfl rfl
    refine E_callS (v := some (.int 0)) (As := [.int a2, .int 0, .int 9]) (r0 := []) (cs2 := w0) rfl rfl rfl (Nat.le_of_ble_eq_true rfl) rfl e33 (by decide) rfl ?_
    refine E_if (t := 40) (b := false) rfl rfl (by decide) ?_
    refine E_aload_n rfl rfl ?_
    refine E_bipush (x := 6) rfl (by decide) ?_
    refine E_callV (v := some (.int (-6))) (As := [.ref 0, .int 6]) (r0 := []) (cs2 := (w0.set 48 (.inl [0, 0, 0, 0, 0, 0, 1, 0]))) rfl rfl rfl (Nat.le_of_ble_eq_true rfl) rfl rfl c33_X5_refuse (by decide) (by simp only [List.length_set]) ?_
    exact E_iret rfl rfl, by
    refine Ef.in (md := mX6_person) (L := [some (.ref 65), some (.int a1), some (.int a2), some (.int a3)]) rfl (Nat.le_of_ble_eq_true rfl) rfl ?_
    refine E_aload_n rfl rfl ?_
    refine E_iload_n rfl rfl ?_
    refine E_iconst (x := 0) rfl (by decide) ?_
    refine E_bipush (x := 7) rfl (by decide) ?_
    have e5 : Ev ab_Z0 1 134 [.ref 65, .int a3, .int 0, .int 7] (w0.set 48 (.inl [0, 0, 0, 0, 0, 0, 1, 0])) (some (.int 1), (w0.set 48 (.inl [0, 0, 0, 0, 0, 0, 1, 0]))) := by
      refine Ef.in (md := mX6_isFrom) (L := [some (.ref 65), some (.int a3), some (.int 0), some (.int 7)]) rfl (Nat.le_of_ble_eq_true rfl) rfl ?_
      refine E_iload_n rfl rfl ?_
      refine E_iload_n rfl rfl ?_
      refine E_ic (t := 14) (b := false) rfl rfl ((cn_lt (rfl : (a3).toInt = (a3).toInt) (by decide : (0 : Int32).toInt = 0)).trans (decide_eq_false (by omega))) ?_
      refine E_iload_n rfl rfl ?_
      refine E_iload_n rfl rfl ?_
      refine E_ic (t := 14) (b := false) rfl rfl ((cn_gt (rfl : (a3).toInt = (a3).toInt) (by decide : (7 : Int32).toInt = 7)).trans (decide_eq_false (by omega))) ?_
      refine E_iconst (x := 1) rfl (by decide) ?_
      refine E_goto (t := 15) rfl rfl ?_
      exact E_iret rfl rfl
    refine E_callV (v := some (.int 1)) (As := [.ref 65, .int a3, .int 0, .int 7]) (r0 := []) (cs2 := (w0.set 48 (.inl [0, 0, 0, 0, 0, 0, 1, 0]))) rfl rfl rfl (Nat.le_of_ble_eq_true rfl) rfl rfl e5 (by decide) rfl ?_
    refine E_if (t := 17) (b := true) rfl rfl (by decide) ?_
    refine E_aload_n rfl rfl ?_
    refine E_iload_n rfl rfl ?_
    refine E_iconst (x := 0) rfl (by decide) ?_
    refine E_bipush (x := 99) rfl (by decide) ?_
    have e22 : Ev ab_Z0 1 134 [.ref 65, .int a1, .int 0, .int 99] (w0.set 48 (.inl [0, 0, 0, 0, 0, 0, 1, 0])) (some (.int 1), (w0.set 48 (.inl [0, 0, 0, 0, 0, 0, 1, 0]))) := by
      refine Ef.in (md := mX6_isFrom) (L := [some (.ref 65), some (.int a1), some (.int 0), some (.int 99)]) rfl (Nat.le_of_ble_eq_true rfl) rfl ?_
      refine E_iload_n rfl rfl ?_
      refine E_iload_n rfl rfl ?_
      refine E_ic (t := 14) (b := false) rfl rfl ((cn_lt (rfl : (a1).toInt = (a1).toInt) (by decide : (0 : Int32).toInt = 0)).trans (decide_eq_false (by omega))) ?_
      refine E_iload_n rfl rfl ?_
      refine E_iload_n rfl rfl ?_
      refine E_ic (t := 14) (b := false) rfl rfl ((cn_gt (rfl : (a1).toInt = (a1).toInt) (by decide : (99 : Int32).toInt = 99)).trans (decide_eq_false (by omega))) ?_
      refine E_iconst (x := 1) rfl (by decide) ?_
      refine E_goto (t := 15) rfl rfl ?_
      exact E_iret rfl rfl
    refine E_callV (v := some (.int 1)) (As := [.ref 65, .int a1, .int 0, .int 99]) (r0 := []) (cs2 := (w0.set 48 (.inl [0, 0, 0, 0, 0, 0, 1, 0]))) rfl rfl rfl (Nat.le_of_ble_eq_true rfl) rfl rfl e22 (by decide) rfl ?_
    refine E_if (t := 39) (b := false) rfl rfl (by decide) ?_
    refine E_aload_n rfl rfl ?_
    refine E_iload_n rfl rfl ?_
    refine E_iconst (x := 0) rfl (by decide) ?_
    refine E_bipush (x := 9) rfl (by decide) ?_
    have e39 : Ev ab_Z0 1 134 [.ref 65, .int a2, .int 0, .int 9] (w0.set 48 (.inl [0, 0, 0, 0, 0, 0, 1, 0])) (some (.int 0), (w0.set 48 (.inl [0, 0, 0, 0, 0, 0, 1, 0]))) := by
      refine Ef.in (md := mX6_isFrom) (L := [some (.ref 65), some (.int a2), some (.int 0), some (.int 9)]) rfl (Nat.le_of_ble_eq_true rfl) rfl ?_
      refine E_iload_n rfl rfl ?_
      refine E_iload_n rfl rfl ?_
      refine E_ic (t := 14) (b := true) rfl rfl ((cn_lt (rfl : (a2).toInt = (a2).toInt) (by decide : (0 : Int32).toInt = 0)).trans (decide_eq_true (by omega))) ?_
      refine E_iconst (x := 0) rfl (by decide) ?_
      exact E_iret rfl rfl
    refine E_callV (v := some (.int 0)) (As := [.ref 65, .int a2, .int 0, .int 9]) (r0 := []) (cs2 := (w0.set 48 (.inl [0, 0, 0, 0, 0, 0, 1, 0]))) rfl rfl rfl (Nat.le_of_ble_eq_true rfl) rfl rfl e39 (by decide) rfl ?_
    refine E_if (t := 46) (b := false) rfl rfl (by decide) ?_
    refine E_aload_n rfl rfl ?_
    refine E_bipush (x := (-6)) rfl (by decide) ?_
    refine E_callV (v := some (.int (-6))) (As := [.ref 65, .int (-6)]) (r0 := []) (cs2 := ((w0.set 48 (.inl [0, 0, 0, 0, 0, 0, 1, 0])).set 66 (.inl [0, 0, 0, 0, 0, 0, 1, 0]))) rfl rfl rfl (Nat.le_of_ble_eq_true rfl) rfl rfl c35_X6_no (by decide) (by simp only [List.length_set]) ?_
    exact E_iret rfl rfl, (by simp only [List.length_set]; rfl), (by simp only [List.length_set]; rfl), ((ab_szs rfl).trans ((ab_szs rfl).trans rfl))⟩
theorem f_person_4 (a1 a2 a3 : Int32) (ha1l : (0 : Int) ≤ a1.toInt) (ha1h : a1.toInt ≤ 99) (ha2l : (0 : Int) ≤ a2.toInt) (ha2h : a2.toInt ≤ 9) (ha3l : (0 : Int) ≤ a3.toInt) (ha3h : a3.toInt ≤ 7) : p1_P 3 84 2 149 [.ref 0, .int a1, .int a2, .int a3] [.ref 65, .int a1, .int a2, .int a3] :=
  ⟨0, (((((w0.set 6 (.inl [a1, 0, 0, 0, 0, 0])).set 7 (.inl [a2, 0, 0, 0, 0, 0])).set 8 (.inl [a3, 0, 0, 0, 0, 0])).set 9 (.inl [0, 0, 0, 0, 0, 0])).set 1 (.inr (.inr (.inr (4, [.ref 2, .ref 3, .ref 4, .ref 5, .ref 6, .ref 7, .ref 8, .ref 9, .ref 10, .int 0, .int 1, .int 0, .int 0, .int 0, .int 1]))))), ((((((((((w0.set 6 (.inl [a1, 0, 0, 0, 0, 0])).set 7 (.inl [a2, 0, 0, 0, 0, 0])).set 8 (.inl [a3, 0, 0, 0, 0, 0])).set 9 (.inl [0, 0, 0, 0, 0, 0])).set 1 (.inr (.inr (.inr (4, [.ref 2, .ref 3, .ref 4, .ref 5, .ref 6, .ref 7, .ref 8, .ref 9, .ref 10, .int 0, .int 1, .int 0, .int 0, .int 0, .int 1]))))).set 71 (.inl [a1, 0, 0, 0, 0, 0])).set 72 (.inl [a2, 0, 0, 0, 0, 0])).set 73 (.inl [a3, 0, 0, 0, 0, 0])).set 74 (.inl [0, 0, 0, 0, 0, 0])).set 65 (.inr (.inr (.inr (6, [.int 0, .int 1, .int 0, .int 0, .int 0, .int 1, .int (-1), .ref 66, .ref 67, .ref 68, .ref 69, .ref 70, .ref 71, .ref 72, .ref 73, .ref 74, .ref 75, .ref 76, .ref 77, .ref 78, .ref 79, .ref 80, .ref 81, .ref 82, .ref 83, .ref 84, .ref 85, .int 0, .int 0, .int 0, .int 0, .int 0, .ref 86, .ref 87, .ref 88, .ref 89, .int 0, .int 0, .ref 90, .ref 91, .ref 92, .ref 93, .int 0, .int 0, .int 0, .int 0, .ref 94, .int 0, .int 0]))))), by
    refine Ef.in (md := mX5_person) (L := [some (.ref 0), some (.int a1), some (.int a2), some (.int a3)]) rfl (Nat.le_of_ble_eq_true rfl) rfl ?_
    refine E_iload_n rfl rfl ?_
    have e2 : Ev ab_Z0 1 47 [.int a3] w0 (some (.int 1), w0) := by
      refine Ef.in (md := mX4_isWish) (L := [some (.int a3)]) rfl (Nat.le_of_ble_eq_true rfl) rfl ?_
      refine E_iload_n rfl rfl ?_
      refine E_if (t := 14) (b := false) rfl rfl ((cn_lt (rfl : (a3).toInt = (a3).toInt) (by decide : (0 : Int32).toInt = 0)).trans (decide_eq_false (by omega))) ?_
      refine E_iload_n rfl rfl ?_
      refine E_bipush (x := 8) rfl (by decide) ?_
      refine E_ic (t := 14) (b := false) rfl rfl ((cn_ge (rfl : (a3).toInt = (a3).toInt) (by decide : (8 : Int32).toInt = 8)).trans (decide_eq_false (by omega))) ?_
      refine E_iconst (x := 1) rfl (by decide) ?_
      refine E_goto (t := 15) rfl rfl ?_
      exact E_iret rfl rfl
    refine E_callS (v := some (.int 1)) (As := [.int a3]) (r0 := []) (cs2 := w0) rfl rfl rfl (Nat.le_of_ble_eq_true rfl) rfl e2 (by decide) rfl ?_
    refine E_if (t := 13) (b := true) rfl rfl (by decide) ?_
    refine E_iload_n rfl rfl ?_
    refine E_iconst (x := 0) rfl (by decide) ?_
    refine E_bipush (x := 99) rfl (by decide) ?_
    have e17 : Ev ab_Z0 1 115 [.int a1, .int 0, .int 99] w0 (some (.int 1), w0) := by
      refine Ef.in (md := mX5_isFrom) (L := [some (.int a1), some (.int 0), some (.int 99)]) rfl (Nat.le_of_ble_eq_true rfl) rfl ?_
      refine E_iload_n rfl rfl ?_
      refine E_iload_n rfl rfl ?_
      refine E_ic (t := 14) (b := false) rfl rfl ((cn_lt (rfl : (a1).toInt = (a1).toInt) (by decide : (0 : Int32).toInt = 0)).trans (decide_eq_false (by omega))) ?_
      refine E_iload_n rfl rfl ?_
      refine E_iload_n rfl rfl ?_
      refine E_ic (t := 14) (b := false) rfl rfl ((cn_gt (rfl : (a1).toInt = (a1).toInt) (by decide : (99 : Int32).toInt = 99)).trans (decide_eq_false (by omega))) ?_
      refine E_iconst (x := 1) rfl (by decide) ?_
      refine E_goto (t := 15) rfl rfl ?_
      exact E_iret rfl rfl
    refine E_callS (v := some (.int 1)) (As := [.int a1, .int 0, .int 99]) (r0 := []) (cs2 := w0) rfl rfl rfl (Nat.le_of_ble_eq_true rfl) rfl e17 (by decide) rfl ?_
    refine E_if (t := 33) (b := false) rfl rfl (by decide) ?_
    refine E_iload_n rfl rfl ?_
    refine E_iconst (x := 0) rfl (by decide) ?_
    refine E_bipush (x := 9) rfl (by decide) ?_
    have e33 : Ev ab_Z0 1 115 [.int a2, .int 0, .int 9] w0 (some (.int 1), w0) := by
      refine Ef.in (md := mX5_isFrom) (L := [some (.int a2), some (.int 0), some (.int 9)]) rfl (Nat.le_of_ble_eq_true rfl) rfl ?_
      refine E_iload_n rfl rfl ?_
      refine E_iload_n rfl rfl ?_
      refine E_ic (t := 14) (b := false) rfl rfl ((cn_lt (rfl : (a2).toInt = (a2).toInt) (by decide : (0 : Int32).toInt = 0)).trans (decide_eq_false (by omega))) ?_
      refine E_iload_n rfl rfl ?_
      refine E_iload_n rfl rfl ?_
      refine E_ic (t := 14) (b := false) rfl rfl ((cn_gt (rfl : (a2).toInt = (a2).toInt) (by decide : (9 : Int32).toInt = 9)).trans (decide_eq_false (by omega))) ?_
      refine E_iconst (x := 1) rfl (by decide) ?_
      refine E_goto (t := 15) rfl rfl ?_
      exact E_iret rfl rfl
    refine E_callS (v := some (.int 1)) (As := [.int a2, .int 0, .int 9]) (r0 := []) (cs2 := w0) rfl rfl rfl (Nat.le_of_ble_eq_true rfl) rfl e33 (by decide) rfl ?_
    refine E_if (t := 40) (b := true) rfl rfl (by decide) ?_
    refine E_aload_n rfl rfl ?_
    refine E_getfield (v := .ref 1) rfl rfl rfl (by decide) rfl ?_
    refine E_callV (v := some (.int 1)) (As := [.ref 1]) (r0 := []) (cs2 := w0) rfl rfl rfl (Nat.le_of_ble_eq_true rfl) rfl rfl c45_X4_hasRoomForPerson (by decide) rfl ?_
    refine E_if (t := 57) (b := true) rfl rfl (by decide) ?_
    refine E_aload_n rfl rfl ?_
    refine E_getfield (v := .ref 1) rfl rfl rfl (by decide) rfl ?_
    refine E_iload_n rfl rfl ?_
    refine E_iload_n rfl rfl ?_
    refine E_iload_n rfl rfl ?_
    have e55 : Ev ab_Z0 2 57 [.ref 1, .int a1, .int a2, .int a3] w0 (some (.int 0), (((((w0.set 6 (.inl [a1, 0, 0, 0, 0, 0])).set 7 (.inl [a2, 0, 0, 0, 0, 0])).set 8 (.inl [a3, 0, 0, 0, 0, 0])).set 9 (.inl [0, 0, 0, 0, 0, 0])).set 1 (.inr (.inr (.inr (4, [.ref 2, .ref 3, .ref 4, .ref 5, .ref 6, .ref 7, .ref 8, .ref 9, .ref 10, .int 0, .int 1, .int 0, .int 0, .int 0, .int 1])))))) := by
      refine Ef.in (md := mX4_addPerson) (L := [some (.ref 1), some (.int a1), some (.int a2), some (.int a3), none]) rfl (Nat.le_of_ble_eq_true rfl) rfl ?_
      refine E_aload_n rfl rfl ?_
      refine E_callV (v := some (.int 1)) (As := [.ref 1]) (r0 := []) (cs2 := w0) rfl rfl rfl (Nat.le_of_ble_eq_true rfl) rfl rfl c45_X4_hasRoomForPerson (by decide) rfl ?_
      refine E_if (t := 9) (b := true) rfl rfl (by decide) ?_
      refine E_aload_n rfl rfl ?_
      refine E_getfield (v := .int 0) rfl rfl rfl (by decide) rfl ?_
      refine E_istore (L2 := [some (.ref 1), some (.int a1), some (.int a2), some (.int a3), some (.int 0)]) rfl rfl ?_
      refine E_aload_n rfl rfl ?_
      refine E_getfield (v := .ref 6) rfl rfl rfl (by decide) rfl ?_
      refine E_iload rfl rfl ?_
      refine E_iload_n rfl rfl ?_
      refine E_iastore (j := 0) (cs2 := (w0.set 6 (.inl [a1, 0, 0, 0, 0, 0]))) rfl rfl (by decide) (by decide) (Nat.le_of_ble_eq_true rfl) rfl ?_
      refine E_aload_n rfl rfl ?_
      refine E_getfield (v := .ref 7) rfl rfl rfl (by decide) rfl ?_
      refine E_iload rfl rfl ?_
      refine E_iload_n rfl rfl ?_
      refine E_iastore (j := 0) (cs2 := ((w0.set 6 (.inl [a1, 0, 0, 0, 0, 0])).set 7 (.inl [a2, 0, 0, 0, 0, 0]))) rfl rfl (by decide) (by decide) (Nat.le_of_ble_eq_true rfl) rfl ?_
      refine E_aload_n rfl rfl ?_
      refine E_getfield (v := .ref 8) rfl rfl rfl (by decide) rfl ?_
      refine E_iload rfl rfl ?_
      refine E_iload_n rfl rfl ?_
      refine E_iastore (j := 0) (cs2 := (((w0.set 6 (.inl [a1, 0, 0, 0, 0, 0])).set 7 (.inl [a2, 0, 0, 0, 0, 0])).set 8 (.inl [a3, 0, 0, 0, 0, 0]))) rfl rfl (by decide) (by decide) (Nat.le_of_ble_eq_true rfl) rfl ?_
      refine E_aload_n rfl rfl ?_
      refine E_getfield (v := .ref 9) rfl rfl rfl (by decide) rfl ?_
      refine E_iload rfl rfl ?_
      refine E_iconst (x := 0) rfl (by decide) ?_
      refine E_iastore (j := 0) (cs2 := ((((w0.set 6 (.inl [a1, 0, 0, 0, 0, 0])).set 7 (.inl [a2, 0, 0, 0, 0, 0])).set 8 (.inl [a3, 0, 0, 0, 0, 0])).set 9 (.inl [0, 0, 0, 0, 0, 0]))) rfl rfl (by decide) (by decide) (Nat.le_of_ble_eq_true rfl) rfl ?_
      refine E_aload_n rfl rfl ?_
      refine E_dup rfl rfl ?_
      refine E_getfield (v := .int 0) rfl rfl rfl (by decide) rfl ?_
      refine E_iconst (x := 1) rfl (by decide) ?_
      refine E_iadd (z := 1) rfl (by decide) ?_
      refine E_putfield (cs2 := (((((w0.set 6 (.inl [a1, 0, 0, 0, 0, 0])).set 7 (.inl [a2, 0, 0, 0, 0, 0])).set 8 (.inl [a3, 0, 0, 0, 0, 0])).set 9 (.inl [0, 0, 0, 0, 0, 0])).set 1 (.inr (.inr (.inr (4, [.ref 2, .ref 3, .ref 4, .ref 5, .ref 6, .ref 7, .ref 8, .ref 9, .ref 10, .int 0, .int 1, .int 0, .int 0, .int 0, .int 1])))))) rfl rfl rfl (by decide) (Nat.le_of_ble_eq_true rfl) rfl rfl rfl rfl ?_
      refine E_iload rfl rfl ?_
      exact E_iret rfl rfl
    refine E_callV (v := some (.int 0)) (As := [.ref 1, .int a1, .int a2, .int a3]) (r0 := []) (cs2 := (((((w0.set 6 (.inl [a1, 0, 0, 0, 0, 0])).set 7 (.inl [a2, 0, 0, 0, 0, 0])).set 8 (.inl [a3, 0, 0, 0, 0, 0])).set 9 (.inl [0, 0, 0, 0, 0, 0])).set 1 (.inr (.inr (.inr (4, [.ref 2, .ref 3, .ref 4, .ref 5, .ref 6, .ref 7, .ref 8, .ref 9, .ref 10, .int 0, .int 1, .int 0, .int 0, .int 0, .int 1])))))) rfl rfl rfl (Nat.le_of_ble_eq_true rfl) rfl rfl e55 (by decide) (by simp only [List.length_set]) ?_
    exact E_iret rfl rfl, by
    refine Ef.in (md := mX6_person) (L := [some (.ref 65), some (.int a1), some (.int a2), some (.int a3)]) rfl (Nat.le_of_ble_eq_true rfl) rfl ?_
    refine E_aload_n rfl rfl ?_
    refine E_iload_n rfl rfl ?_
    refine E_iconst (x := 0) rfl (by decide) ?_
    refine E_bipush (x := 7) rfl (by decide) ?_
    have e5 : Ev ab_Z0 1 134 [.ref 65, .int a3, .int 0, .int 7] (((((w0.set 6 (.inl [a1, 0, 0, 0, 0, 0])).set 7 (.inl [a2, 0, 0, 0, 0, 0])).set 8 (.inl [a3, 0, 0, 0, 0, 0])).set 9 (.inl [0, 0, 0, 0, 0, 0])).set 1 (.inr (.inr (.inr (4, [.ref 2, .ref 3, .ref 4, .ref 5, .ref 6, .ref 7, .ref 8, .ref 9, .ref 10, .int 0, .int 1, .int 0, .int 0, .int 0, .int 1]))))) (some (.int 1), (((((w0.set 6 (.inl [a1, 0, 0, 0, 0, 0])).set 7 (.inl [a2, 0, 0, 0, 0, 0])).set 8 (.inl [a3, 0, 0, 0, 0, 0])).set 9 (.inl [0, 0, 0, 0, 0, 0])).set 1 (.inr (.inr (.inr (4, [.ref 2, .ref 3, .ref 4, .ref 5, .ref 6, .ref 7, .ref 8, .ref 9, .ref 10, .int 0, .int 1, .int 0, .int 0, .int 0, .int 1])))))) := by
      refine Ef.in (md := mX6_isFrom) (L := [some (.ref 65), some (.int a3), some (.int 0), some (.int 7)]) rfl (Nat.le_of_ble_eq_true rfl) rfl ?_
      refine E_iload_n rfl rfl ?_
      refine E_iload_n rfl rfl ?_
      refine E_ic (t := 14) (b := false) rfl rfl ((cn_lt (rfl : (a3).toInt = (a3).toInt) (by decide : (0 : Int32).toInt = 0)).trans (decide_eq_false (by omega))) ?_
      refine E_iload_n rfl rfl ?_
      refine E_iload_n rfl rfl ?_
      refine E_ic (t := 14) (b := false) rfl rfl ((cn_gt (rfl : (a3).toInt = (a3).toInt) (by decide : (7 : Int32).toInt = 7)).trans (decide_eq_false (by omega))) ?_
      refine E_iconst (x := 1) rfl (by decide) ?_
      refine E_goto (t := 15) rfl rfl ?_
      exact E_iret rfl rfl
    refine E_callV (v := some (.int 1)) (As := [.ref 65, .int a3, .int 0, .int 7]) (r0 := []) (cs2 := (((((w0.set 6 (.inl [a1, 0, 0, 0, 0, 0])).set 7 (.inl [a2, 0, 0, 0, 0, 0])).set 8 (.inl [a3, 0, 0, 0, 0, 0])).set 9 (.inl [0, 0, 0, 0, 0, 0])).set 1 (.inr (.inr (.inr (4, [.ref 2, .ref 3, .ref 4, .ref 5, .ref 6, .ref 7, .ref 8, .ref 9, .ref 10, .int 0, .int 1, .int 0, .int 0, .int 0, .int 1])))))) rfl rfl rfl (Nat.le_of_ble_eq_true rfl) rfl rfl e5 (by decide) rfl ?_
    refine E_if (t := 17) (b := true) rfl rfl (by decide) ?_
    refine E_aload_n rfl rfl ?_
    refine E_iload_n rfl rfl ?_
    refine E_iconst (x := 0) rfl (by decide) ?_
    refine E_bipush (x := 99) rfl (by decide) ?_
    have e22 : Ev ab_Z0 1 134 [.ref 65, .int a1, .int 0, .int 99] (((((w0.set 6 (.inl [a1, 0, 0, 0, 0, 0])).set 7 (.inl [a2, 0, 0, 0, 0, 0])).set 8 (.inl [a3, 0, 0, 0, 0, 0])).set 9 (.inl [0, 0, 0, 0, 0, 0])).set 1 (.inr (.inr (.inr (4, [.ref 2, .ref 3, .ref 4, .ref 5, .ref 6, .ref 7, .ref 8, .ref 9, .ref 10, .int 0, .int 1, .int 0, .int 0, .int 0, .int 1]))))) (some (.int 1), (((((w0.set 6 (.inl [a1, 0, 0, 0, 0, 0])).set 7 (.inl [a2, 0, 0, 0, 0, 0])).set 8 (.inl [a3, 0, 0, 0, 0, 0])).set 9 (.inl [0, 0, 0, 0, 0, 0])).set 1 (.inr (.inr (.inr (4, [.ref 2, .ref 3, .ref 4, .ref 5, .ref 6, .ref 7, .ref 8, .ref 9, .ref 10, .int 0, .int 1, .int 0, .int 0, .int 0, .int 1])))))) := by
      refine Ef.in (md := mX6_isFrom) (L := [some (.ref 65), some (.int a1), some (.int 0), some (.int 99)]) rfl (Nat.le_of_ble_eq_true rfl) rfl ?_
      refine E_iload_n rfl rfl ?_
      refine E_iload_n rfl rfl ?_
      refine E_ic (t := 14) (b := false) rfl rfl ((cn_lt (rfl : (a1).toInt = (a1).toInt) (by decide : (0 : Int32).toInt = 0)).trans (decide_eq_false (by omega))) ?_
      refine E_iload_n rfl rfl ?_
      refine E_iload_n rfl rfl ?_
      refine E_ic (t := 14) (b := false) rfl rfl ((cn_gt (rfl : (a1).toInt = (a1).toInt) (by decide : (99 : Int32).toInt = 99)).trans (decide_eq_false (by omega))) ?_
      refine E_iconst (x := 1) rfl (by decide) ?_
      refine E_goto (t := 15) rfl rfl ?_
      exact E_iret rfl rfl
    refine E_callV (v := some (.int 1)) (As := [.ref 65, .int a1, .int 0, .int 99]) (r0 := []) (cs2 := (((((w0.set 6 (.inl [a1, 0, 0, 0, 0, 0])).set 7 (.inl [a2, 0, 0, 0, 0, 0])).set 8 (.inl [a3, 0, 0, 0, 0, 0])).set 9 (.inl [0, 0, 0, 0, 0, 0])).set 1 (.inr (.inr (.inr (4, [.ref 2, .ref 3, .ref 4, .ref 5, .ref 6, .ref 7, .ref 8, .ref 9, .ref 10, .int 0, .int 1, .int 0, .int 0, .int 0, .int 1])))))) rfl rfl rfl (Nat.le_of_ble_eq_true rfl) rfl rfl e22 (by decide) rfl ?_
    refine E_if (t := 39) (b := false) rfl rfl (by decide) ?_
    refine E_aload_n rfl rfl ?_
    refine E_iload_n rfl rfl ?_
    refine E_iconst (x := 0) rfl (by decide) ?_
    refine E_bipush (x := 9) rfl (by decide) ?_
    have e39 : Ev ab_Z0 1 134 [.ref 65, .int a2, .int 0, .int 9] (((((w0.set 6 (.inl [a1, 0, 0, 0, 0, 0])).set 7 (.inl [a2, 0, 0, 0, 0, 0])).set 8 (.inl [a3, 0, 0, 0, 0, 0])).set 9 (.inl [0, 0, 0, 0, 0, 0])).set 1 (.inr (.inr (.inr (4, [.ref 2, .ref 3, .ref 4, .ref 5, .ref 6, .ref 7, .ref 8, .ref 9, .ref 10, .int 0, .int 1, .int 0, .int 0, .int 0, .int 1]))))) (some (.int 1), (((((w0.set 6 (.inl [a1, 0, 0, 0, 0, 0])).set 7 (.inl [a2, 0, 0, 0, 0, 0])).set 8 (.inl [a3, 0, 0, 0, 0, 0])).set 9 (.inl [0, 0, 0, 0, 0, 0])).set 1 (.inr (.inr (.inr (4, [.ref 2, .ref 3, .ref 4, .ref 5, .ref 6, .ref 7, .ref 8, .ref 9, .ref 10, .int 0, .int 1, .int 0, .int 0, .int 0, .int 1])))))) := by
      refine Ef.in (md := mX6_isFrom) (L := [some (.ref 65), some (.int a2), some (.int 0), some (.int 9)]) rfl (Nat.le_of_ble_eq_true rfl) rfl ?_
      refine E_iload_n rfl rfl ?_
      refine E_iload_n rfl rfl ?_
      refine E_ic (t := 14) (b := false) rfl rfl ((cn_lt (rfl : (a2).toInt = (a2).toInt) (by decide : (0 : Int32).toInt = 0)).trans (decide_eq_false (by omega))) ?_
      refine E_iload_n rfl rfl ?_
      refine E_iload_n rfl rfl ?_
      refine E_ic (t := 14) (b := false) rfl rfl ((cn_gt (rfl : (a2).toInt = (a2).toInt) (by decide : (9 : Int32).toInt = 9)).trans (decide_eq_false (by omega))) ?_
      refine E_iconst (x := 1) rfl (by decide) ?_
      refine E_goto (t := 15) rfl rfl ?_
      exact E_iret rfl rfl
    refine E_callV (v := some (.int 1)) (As := [.ref 65, .int a2, .int 0, .int 9]) (r0 := []) (cs2 := (((((w0.set 6 (.inl [a1, 0, 0, 0, 0, 0])).set 7 (.inl [a2, 0, 0, 0, 0, 0])).set 8 (.inl [a3, 0, 0, 0, 0, 0])).set 9 (.inl [0, 0, 0, 0, 0, 0])).set 1 (.inr (.inr (.inr (4, [.ref 2, .ref 3, .ref 4, .ref 5, .ref 6, .ref 7, .ref 8, .ref 9, .ref 10, .int 0, .int 1, .int 0, .int 0, .int 0, .int 1])))))) rfl rfl rfl (Nat.le_of_ble_eq_true rfl) rfl rfl e39 (by decide) rfl ?_
    refine E_if (t := 46) (b := true) rfl rfl (by decide) ?_
    refine E_aload_n rfl rfl ?_
    refine E_getfield (v := .int 0) rfl rfl rfl (by decide) rfl ?_
    refine E_bipush (x := 6) rfl (by decide) ?_
    refine E_ic (t := 64) (b := true) rfl rfl (by decide) ?_
    refine E_aload_n rfl rfl ?_
    refine E_iload_n rfl rfl ?_
    refine E_iload_n rfl rfl ?_
    refine E_iload_n rfl rfl ?_
    have e60 : Ev ab_Z0 1 147 [.ref 65, .int a1, .int a2, .int a3] (((((w0.set 6 (.inl [a1, 0, 0, 0, 0, 0])).set 7 (.inl [a2, 0, 0, 0, 0, 0])).set 8 (.inl [a3, 0, 0, 0, 0, 0])).set 9 (.inl [0, 0, 0, 0, 0, 0])).set 1 (.inr (.inr (.inr (4, [.ref 2, .ref 3, .ref 4, .ref 5, .ref 6, .ref 7, .ref 8, .ref 9, .ref 10, .int 0, .int 1, .int 0, .int 0, .int 0, .int 1]))))) (some (.int 0), ((((((((((w0.set 6 (.inl [a1, 0, 0, 0, 0, 0])).set 7 (.inl [a2, 0, 0, 0, 0, 0])).set 8 (.inl [a3, 0, 0, 0, 0, 0])).set 9 (.inl [0, 0, 0, 0, 0, 0])).set 1 (.inr (.inr (.inr (4, [.ref 2, .ref 3, .ref 4, .ref 5, .ref 6, .ref 7, .ref 8, .ref 9, .ref 10, .int 0, .int 1, .int 0, .int 0, .int 0, .int 1]))))).set 71 (.inl [a1, 0, 0, 0, 0, 0])).set 72 (.inl [a2, 0, 0, 0, 0, 0])).set 73 (.inl [a3, 0, 0, 0, 0, 0])).set 74 (.inl [0, 0, 0, 0, 0, 0])).set 65 (.inr (.inr (.inr (6, [.int 0, .int 1, .int 0, .int 0, .int 0, .int 1, .int (-1), .ref 66, .ref 67, .ref 68, .ref 69, .ref 70, .ref 71, .ref 72, .ref 73, .ref 74, .ref 75, .ref 76, .ref 77, .ref 78, .ref 79, .ref 80, .ref 81, .ref 82, .ref 83, .ref 84, .ref 85, .int 0, .int 0, .int 0, .int 0, .int 0, .ref 86, .ref 87, .ref 88, .ref 89, .int 0, .int 0, .ref 90, .ref 91, .ref 92, .ref 93, .int 0, .int 0, .int 0, .int 0, .ref 94, .int 0, .int 0])))))) := by
      refine Ef.in (md := mX6_addsPerson) (L := [some (.ref 65), some (.int a1), some (.int a2), some (.int a3)]) rfl (Nat.le_of_ble_eq_true rfl) rfl ?_
      refine E_aload_n rfl rfl ?_
      refine E_getfield (v := .ref 71) rfl rfl rfl (by decide) rfl ?_
      refine E_aload_n rfl rfl ?_
      refine E_getfield (v := .int 0) rfl rfl rfl (by decide) rfl ?_
      refine E_iload_n rfl rfl ?_
      refine E_iastore (j := 0) (cs2 := ((((((w0.set 6 (.inl [a1, 0, 0, 0, 0, 0])).set 7 (.inl [a2, 0, 0, 0, 0, 0])).set 8 (.inl [a3, 0, 0, 0, 0, 0])).set 9 (.inl [0, 0, 0, 0, 0, 0])).set 1 (.inr (.inr (.inr (4, [.ref 2, .ref 3, .ref 4, .ref 5, .ref 6, .ref 7, .ref 8, .ref 9, .ref 10, .int 0, .int 1, .int 0, .int 0, .int 0, .int 1]))))).set 71 (.inl [a1, 0, 0, 0, 0, 0]))) rfl rfl (by decide) (by decide) (Nat.le_of_ble_eq_true rfl) rfl ?_
      refine E_aload_n rfl rfl ?_
      refine E_getfield (v := .ref 72) rfl rfl rfl (by decide) rfl ?_
      refine E_aload_n rfl rfl ?_
      refine E_getfield (v := .int 0) rfl rfl rfl (by decide) rfl ?_
      refine E_iload_n rfl rfl ?_
      refine E_iastore (j := 0) (cs2 := (((((((w0.set 6 (.inl [a1, 0, 0, 0, 0, 0])).set 7 (.inl [a2, 0, 0, 0, 0, 0])).set 8 (.inl [a3, 0, 0, 0, 0, 0])).set 9 (.inl [0, 0, 0, 0, 0, 0])).set 1 (.inr (.inr (.inr (4, [.ref 2, .ref 3, .ref 4, .ref 5, .ref 6, .ref 7, .ref 8, .ref 9, .ref 10, .int 0, .int 1, .int 0, .int 0, .int 0, .int 1]))))).set 71 (.inl [a1, 0, 0, 0, 0, 0])).set 72 (.inl [a2, 0, 0, 0, 0, 0]))) rfl rfl (by decide) (by decide) (Nat.le_of_ble_eq_true rfl) rfl ?_
      refine E_aload_n rfl rfl ?_
      refine E_getfield (v := .ref 73) rfl rfl rfl (by decide) rfl ?_
      refine E_aload_n rfl rfl ?_
      refine E_getfield (v := .int 0) rfl rfl rfl (by decide) rfl ?_
      refine E_iload_n rfl rfl ?_
      refine E_iastore (j := 0) (cs2 := ((((((((w0.set 6 (.inl [a1, 0, 0, 0, 0, 0])).set 7 (.inl [a2, 0, 0, 0, 0, 0])).set 8 (.inl [a3, 0, 0, 0, 0, 0])).set 9 (.inl [0, 0, 0, 0, 0, 0])).set 1 (.inr (.inr (.inr (4, [.ref 2, .ref 3, .ref 4, .ref 5, .ref 6, .ref 7, .ref 8, .ref 9, .ref 10, .int 0, .int 1, .int 0, .int 0, .int 0, .int 1]))))).set 71 (.inl [a1, 0, 0, 0, 0, 0])).set 72 (.inl [a2, 0, 0, 0, 0, 0])).set 73 (.inl [a3, 0, 0, 0, 0, 0]))) rfl rfl (by decide) (by decide) (Nat.le_of_ble_eq_true rfl) rfl ?_
      refine E_aload_n rfl rfl ?_
      refine E_getfield (v := .ref 74) rfl rfl rfl (by decide) rfl ?_
      refine E_aload_n rfl rfl ?_
      refine E_getfield (v := .int 0) rfl rfl rfl (by decide) rfl ?_
      refine E_iconst (x := 0) rfl (by decide) ?_
      refine E_iastore (j := 0) (cs2 := (((((((((w0.set 6 (.inl [a1, 0, 0, 0, 0, 0])).set 7 (.inl [a2, 0, 0, 0, 0, 0])).set 8 (.inl [a3, 0, 0, 0, 0, 0])).set 9 (.inl [0, 0, 0, 0, 0, 0])).set 1 (.inr (.inr (.inr (4, [.ref 2, .ref 3, .ref 4, .ref 5, .ref 6, .ref 7, .ref 8, .ref 9, .ref 10, .int 0, .int 1, .int 0, .int 0, .int 0, .int 1]))))).set 71 (.inl [a1, 0, 0, 0, 0, 0])).set 72 (.inl [a2, 0, 0, 0, 0, 0])).set 73 (.inl [a3, 0, 0, 0, 0, 0])).set 74 (.inl [0, 0, 0, 0, 0, 0]))) rfl rfl (by decide) (by decide) (Nat.le_of_ble_eq_true rfl) rfl ?_
      refine E_aload_n rfl rfl ?_
      refine E_dup rfl rfl ?_
      refine E_getfield (v := .int 0) rfl rfl rfl (by decide) rfl ?_
      refine E_dup_x1 rfl ⟨rfl, rfl⟩ ?_
      refine E_iconst (x := 1) rfl (by decide) ?_
      refine E_iadd (z := 1) rfl (by decide) ?_
      refine E_putfield (cs2 := ((((((((((w0.set 6 (.inl [a1, 0, 0, 0, 0, 0])).set 7 (.inl [a2, 0, 0, 0, 0, 0])).set 8 (.inl [a3, 0, 0, 0, 0, 0])).set 9 (.inl [0, 0, 0, 0, 0, 0])).set 1 (.inr (.inr (.inr (4, [.ref 2, .ref 3, .ref 4, .ref 5, .ref 6, .ref 7, .ref 8, .ref 9, .ref 10, .int 0, .int 1, .int 0, .int 0, .int 0, .int 1]))))).set 71 (.inl [a1, 0, 0, 0, 0, 0])).set 72 (.inl [a2, 0, 0, 0, 0, 0])).set 73 (.inl [a3, 0, 0, 0, 0, 0])).set 74 (.inl [0, 0, 0, 0, 0, 0])).set 65 (.inr (.inr (.inr (6, [.int 0, .int 1, .int 0, .int 0, .int 0, .int 1, .int (-1), .ref 66, .ref 67, .ref 68, .ref 69, .ref 70, .ref 71, .ref 72, .ref 73, .ref 74, .ref 75, .ref 76, .ref 77, .ref 78, .ref 79, .ref 80, .ref 81, .ref 82, .ref 83, .ref 84, .ref 85, .int 0, .int 0, .int 0, .int 0, .int 0, .ref 86, .ref 87, .ref 88, .ref 89, .int 0, .int 0, .ref 90, .ref 91, .ref 92, .ref 93, .int 0, .int 0, .int 0, .int 0, .ref 94, .int 0, .int 0])))))) rfl rfl rfl (by decide) (Nat.le_of_ble_eq_true rfl) rfl rfl rfl rfl ?_
      exact E_iret rfl rfl
    refine E_callV (v := some (.int 0)) (As := [.ref 65, .int a1, .int a2, .int a3]) (r0 := []) (cs2 := ((((((((((w0.set 6 (.inl [a1, 0, 0, 0, 0, 0])).set 7 (.inl [a2, 0, 0, 0, 0, 0])).set 8 (.inl [a3, 0, 0, 0, 0, 0])).set 9 (.inl [0, 0, 0, 0, 0, 0])).set 1 (.inr (.inr (.inr (4, [.ref 2, .ref 3, .ref 4, .ref 5, .ref 6, .ref 7, .ref 8, .ref 9, .ref 10, .int 0, .int 1, .int 0, .int 0, .int 0, .int 1]))))).set 71 (.inl [a1, 0, 0, 0, 0, 0])).set 72 (.inl [a2, 0, 0, 0, 0, 0])).set 73 (.inl [a3, 0, 0, 0, 0, 0])).set 74 (.inl [0, 0, 0, 0, 0, 0])).set 65 (.inr (.inr (.inr (6, [.int 0, .int 1, .int 0, .int 0, .int 0, .int 1, .int (-1), .ref 66, .ref 67, .ref 68, .ref 69, .ref 70, .ref 71, .ref 72, .ref 73, .ref 74, .ref 75, .ref 76, .ref 77, .ref 78, .ref 79, .ref 80, .ref 81, .ref 82, .ref 83, .ref 84, .ref 85, .int 0, .int 0, .int 0, .int 0, .int 0, .ref 86, .ref 87, .ref 88, .ref 89, .int 0, .int 0, .ref 90, .ref 91, .ref 92, .ref 93, .int 0, .int 0, .int 0, .int 0, .ref 94, .int 0, .int 0])))))) rfl rfl rfl (Nat.le_of_ble_eq_true rfl) rfl rfl e60 (by decide) (by simp only [List.length_set]) ?_
    exact E_iret rfl rfl, (by simp only [List.length_set]; rfl), (by simp only [List.length_set]; rfl), ((ab_szs rfl).trans ((ab_szs rfl).trans ((ab_szs rfl).trans ((ab_szs rfl).trans ((ab_szs rfl).trans ((ab_szs rfl).trans ((ab_szs rfl).trans ((ab_szs rfl).trans ((ab_szs rfl).trans ((ab_szs rfl).trans rfl))))))))))⟩
theorem f_person_5 (a1 a2 a3 : Int32) (ha1l : (0 : Int) ≤ a1.toInt) (ha1h : a1.toInt ≤ 99) (ha2l : (10 : Int) ≤ a2.toInt) (ha3l : (0 : Int) ≤ a3.toInt) (ha3h : a3.toInt ≤ 7) : p1_P 3 84 2 149 [.ref 0, .int a1, .int a2, .int a3] [.ref 65, .int a1, .int a2, .int a3] :=
  ⟨(-6), (w0.set 48 (.inl [0, 0, 0, 0, 0, 0, 1, 0])), ((w0.set 48 (.inl [0, 0, 0, 0, 0, 0, 1, 0])).set 66 (.inl [0, 0, 0, 0, 0, 0, 1, 0])), by
    refine Ef.in (md := mX5_person) (L := [some (.ref 0), some (.int a1), some (.int a2), some (.int a3)]) rfl (Nat.le_of_ble_eq_true rfl) rfl ?_
    refine E_iload_n rfl rfl ?_
    have e2 : Ev ab_Z0 1 47 [.int a3] w0 (some (.int 1), w0) := by
      refine Ef.in (md := mX4_isWish) (L := [some (.int a3)]) rfl (Nat.le_of_ble_eq_true rfl) rfl ?_
      refine E_iload_n rfl rfl ?_
      refine E_if (t := 14) (b := false) rfl rfl ((cn_lt (rfl : (a3).toInt = (a3).toInt) (by decide : (0 : Int32).toInt = 0)).trans (decide_eq_false (by omega))) ?_
      refine E_iload_n rfl rfl ?_
      refine E_bipush (x := 8) rfl (by decide) ?_
      refine E_ic (t := 14) (b := false) rfl rfl ((cn_ge (rfl : (a3).toInt = (a3).toInt) (by decide : (8 : Int32).toInt = 8)).trans (decide_eq_false (by omega))) ?_
      refine E_iconst (x := 1) rfl (by decide) ?_
      refine E_goto (t := 15) rfl rfl ?_
      exact E_iret rfl rfl
    refine E_callS (v := some (.int 1)) (As := [.int a3]) (r0 := []) (cs2 := w0) rfl rfl rfl (Nat.le_of_ble_eq_true rfl) rfl e2 (by decide) rfl ?_
    refine E_if (t := 13) (b := true) rfl rfl (by decide) ?_
    refine E_iload_n rfl rfl ?_
    refine E_iconst (x := 0) rfl (by decide) ?_
    refine E_bipush (x := 99) rfl (by decide) ?_
    have e17 : Ev ab_Z0 1 115 [.int a1, .int 0, .int 99] w0 (some (.int 1), w0) := by
      refine Ef.in (md := mX5_isFrom) (L := [some (.int a1), some (.int 0), some (.int 99)]) rfl (Nat.le_of_ble_eq_true rfl) rfl ?_
      refine E_iload_n rfl rfl ?_
      refine E_iload_n rfl rfl ?_
      refine E_ic (t := 14) (b := false) rfl rfl ((cn_lt (rfl : (a1).toInt = (a1).toInt) (by decide : (0 : Int32).toInt = 0)).trans (decide_eq_false (by omega))) ?_
      refine E_iload_n rfl rfl ?_
      refine E_iload_n rfl rfl ?_
      refine E_ic (t := 14) (b := false) rfl rfl ((cn_gt (rfl : (a1).toInt = (a1).toInt) (by decide : (99 : Int32).toInt = 99)).trans (decide_eq_false (by omega))) ?_
      refine E_iconst (x := 1) rfl (by decide) ?_
      refine E_goto (t := 15) rfl rfl ?_
      exact E_iret rfl rfl
    refine E_callS (v := some (.int 1)) (As := [.int a1, .int 0, .int 99]) (r0 := []) (cs2 := w0) rfl rfl rfl (Nat.le_of_ble_eq_true rfl) rfl e17 (by decide) rfl ?_
    refine E_if (t := 33) (b := false) rfl rfl (by decide) ?_
    refine E_iload_n rfl rfl ?_
    refine E_iconst (x := 0) rfl (by decide) ?_
    refine E_bipush (x := 9) rfl (by decide) ?_
    have e33 : Ev ab_Z0 1 115 [.int a2, .int 0, .int 9] w0 (some (.int 0), w0) := by
      refine Ef.in (md := mX5_isFrom) (L := [some (.int a2), some (.int 0), some (.int 9)]) rfl (Nat.le_of_ble_eq_true rfl) rfl ?_
      refine E_iload_n rfl rfl ?_
      refine E_iload_n rfl rfl ?_
      refine E_ic (t := 14) (b := false) rfl rfl ((cn_lt (rfl : (a2).toInt = (a2).toInt) (by decide : (0 : Int32).toInt = 0)).trans (decide_eq_false (by omega))) ?_
      refine E_iload_n rfl rfl ?_
      refine E_iload_n rfl rfl ?_
      refine E_ic (t := 14) (b := true) rfl rfl ((cn_gt (rfl : (a2).toInt = (a2).toInt) (by decide : (9 : Int32).toInt = 9)).trans (decide_eq_true (by omega))) ?_
      refine E_iconst (x := 0) rfl (by decide) ?_
      exact E_iret rfl rfl
    refine E_callS (v := some (.int 0)) (As := [.int a2, .int 0, .int 9]) (r0 := []) (cs2 := w0) rfl rfl rfl (Nat.le_of_ble_eq_true rfl) rfl e33 (by decide) rfl ?_
    refine E_if (t := 40) (b := false) rfl rfl (by decide) ?_
    refine E_aload_n rfl rfl ?_
    refine E_bipush (x := 6) rfl (by decide) ?_
    refine E_callV (v := some (.int (-6))) (As := [.ref 0, .int 6]) (r0 := []) (cs2 := (w0.set 48 (.inl [0, 0, 0, 0, 0, 0, 1, 0]))) rfl rfl rfl (Nat.le_of_ble_eq_true rfl) rfl rfl c33_X5_refuse (by decide) (by simp only [List.length_set]) ?_
    exact E_iret rfl rfl, by
    refine Ef.in (md := mX6_person) (L := [some (.ref 65), some (.int a1), some (.int a2), some (.int a3)]) rfl (Nat.le_of_ble_eq_true rfl) rfl ?_
    refine E_aload_n rfl rfl ?_
    refine E_iload_n rfl rfl ?_
    refine E_iconst (x := 0) rfl (by decide) ?_
    refine E_bipush (x := 7) rfl (by decide) ?_
    have e5 : Ev ab_Z0 1 134 [.ref 65, .int a3, .int 0, .int 7] (w0.set 48 (.inl [0, 0, 0, 0, 0, 0, 1, 0])) (some (.int 1), (w0.set 48 (.inl [0, 0, 0, 0, 0, 0, 1, 0]))) := by
      refine Ef.in (md := mX6_isFrom) (L := [some (.ref 65), some (.int a3), some (.int 0), some (.int 7)]) rfl (Nat.le_of_ble_eq_true rfl) rfl ?_
      refine E_iload_n rfl rfl ?_
      refine E_iload_n rfl rfl ?_
      refine E_ic (t := 14) (b := false) rfl rfl ((cn_lt (rfl : (a3).toInt = (a3).toInt) (by decide : (0 : Int32).toInt = 0)).trans (decide_eq_false (by omega))) ?_
      refine E_iload_n rfl rfl ?_
      refine E_iload_n rfl rfl ?_
      refine E_ic (t := 14) (b := false) rfl rfl ((cn_gt (rfl : (a3).toInt = (a3).toInt) (by decide : (7 : Int32).toInt = 7)).trans (decide_eq_false (by omega))) ?_
      refine E_iconst (x := 1) rfl (by decide) ?_
      refine E_goto (t := 15) rfl rfl ?_
      exact E_iret rfl rfl
    refine E_callV (v := some (.int 1)) (As := [.ref 65, .int a3, .int 0, .int 7]) (r0 := []) (cs2 := (w0.set 48 (.inl [0, 0, 0, 0, 0, 0, 1, 0]))) rfl rfl rfl (Nat.le_of_ble_eq_true rfl) rfl rfl e5 (by decide) rfl ?_
    refine E_if (t := 17) (b := true) rfl rfl (by decide) ?_
    refine E_aload_n rfl rfl ?_
    refine E_iload_n rfl rfl ?_
    refine E_iconst (x := 0) rfl (by decide) ?_
    refine E_bipush (x := 99) rfl (by decide) ?_
    have e22 : Ev ab_Z0 1 134 [.ref 65, .int a1, .int 0, .int 99] (w0.set 48 (.inl [0, 0, 0, 0, 0, 0, 1, 0])) (some (.int 1), (w0.set 48 (.inl [0, 0, 0, 0, 0, 0, 1, 0]))) := by
      refine Ef.in (md := mX6_isFrom) (L := [some (.ref 65), some (.int a1), some (.int 0), some (.int 99)]) rfl (Nat.le_of_ble_eq_true rfl) rfl ?_
      refine E_iload_n rfl rfl ?_
      refine E_iload_n rfl rfl ?_
      refine E_ic (t := 14) (b := false) rfl rfl ((cn_lt (rfl : (a1).toInt = (a1).toInt) (by decide : (0 : Int32).toInt = 0)).trans (decide_eq_false (by omega))) ?_
      refine E_iload_n rfl rfl ?_
      refine E_iload_n rfl rfl ?_
      refine E_ic (t := 14) (b := false) rfl rfl ((cn_gt (rfl : (a1).toInt = (a1).toInt) (by decide : (99 : Int32).toInt = 99)).trans (decide_eq_false (by omega))) ?_
      refine E_iconst (x := 1) rfl (by decide) ?_
      refine E_goto (t := 15) rfl rfl ?_
      exact E_iret rfl rfl
    refine E_callV (v := some (.int 1)) (As := [.ref 65, .int a1, .int 0, .int 99]) (r0 := []) (cs2 := (w0.set 48 (.inl [0, 0, 0, 0, 0, 0, 1, 0]))) rfl rfl rfl (Nat.le_of_ble_eq_true rfl) rfl rfl e22 (by decide) rfl ?_
    refine E_if (t := 39) (b := false) rfl rfl (by decide) ?_
    refine E_aload_n rfl rfl ?_
    refine E_iload_n rfl rfl ?_
    refine E_iconst (x := 0) rfl (by decide) ?_
    refine E_bipush (x := 9) rfl (by decide) ?_
    have e39 : Ev ab_Z0 1 134 [.ref 65, .int a2, .int 0, .int 9] (w0.set 48 (.inl [0, 0, 0, 0, 0, 0, 1, 0])) (some (.int 0), (w0.set 48 (.inl [0, 0, 0, 0, 0, 0, 1, 0]))) := by
      refine Ef.in (md := mX6_isFrom) (L := [some (.ref 65), some (.int a2), some (.int 0), some (.int 9)]) rfl (Nat.le_of_ble_eq_true rfl) rfl ?_
      refine E_iload_n rfl rfl ?_
      refine E_iload_n rfl rfl ?_
      refine E_ic (t := 14) (b := false) rfl rfl ((cn_lt (rfl : (a2).toInt = (a2).toInt) (by decide : (0 : Int32).toInt = 0)).trans (decide_eq_false (by omega))) ?_
      refine E_iload_n rfl rfl ?_
      refine E_iload_n rfl rfl ?_
      refine E_ic (t := 14) (b := true) rfl rfl ((cn_gt (rfl : (a2).toInt = (a2).toInt) (by decide : (9 : Int32).toInt = 9)).trans (decide_eq_true (by omega))) ?_
      refine E_iconst (x := 0) rfl (by decide) ?_
      exact E_iret rfl rfl
    refine E_callV (v := some (.int 0)) (As := [.ref 65, .int a2, .int 0, .int 9]) (r0 := []) (cs2 := (w0.set 48 (.inl [0, 0, 0, 0, 0, 0, 1, 0]))) rfl rfl rfl (Nat.le_of_ble_eq_true rfl) rfl rfl e39 (by decide) rfl ?_
    refine E_if (t := 46) (b := false) rfl rfl (by decide) ?_
    refine E_aload_n rfl rfl ?_
    refine E_bipush (x := (-6)) rfl (by decide) ?_
    refine E_callV (v := some (.int (-6))) (As := [.ref 65, .int (-6)]) (r0 := []) (cs2 := ((w0.set 48 (.inl [0, 0, 0, 0, 0, 0, 1, 0])).set 66 (.inl [0, 0, 0, 0, 0, 0, 1, 0]))) rfl rfl rfl (Nat.le_of_ble_eq_true rfl) rfl rfl c35_X6_no (by decide) (by simp only [List.length_set]) ?_
    exact E_iret rfl rfl, (by simp only [List.length_set]; rfl), (by simp only [List.length_set]; rfl), ((ab_szs rfl).trans ((ab_szs rfl).trans rfl))⟩
theorem f_person_6 (a1 a2 a3 : Int32) (ha1l : (100 : Int) ≤ a1.toInt) (ha3l : (0 : Int) ≤ a3.toInt) (ha3h : a3.toInt ≤ 7) : p1_P 3 84 2 149 [.ref 0, .int a1, .int a2, .int a3] [.ref 65, .int a1, .int a2, .int a3] :=
  ⟨(-6), (w0.set 48 (.inl [0, 0, 0, 0, 0, 0, 1, 0])), ((w0.set 48 (.inl [0, 0, 0, 0, 0, 0, 1, 0])).set 66 (.inl [0, 0, 0, 0, 0, 0, 1, 0])), by
    refine Ef.in (md := mX5_person) (L := [some (.ref 0), some (.int a1), some (.int a2), some (.int a3)]) rfl (Nat.le_of_ble_eq_true rfl) rfl ?_
    refine E_iload_n rfl rfl ?_
    have e2 : Ev ab_Z0 1 47 [.int a3] w0 (some (.int 1), w0) := by
      refine Ef.in (md := mX4_isWish) (L := [some (.int a3)]) rfl (Nat.le_of_ble_eq_true rfl) rfl ?_
      refine E_iload_n rfl rfl ?_
      refine E_if (t := 14) (b := false) rfl rfl ((cn_lt (rfl : (a3).toInt = (a3).toInt) (by decide : (0 : Int32).toInt = 0)).trans (decide_eq_false (by omega))) ?_
      refine E_iload_n rfl rfl ?_
      refine E_bipush (x := 8) rfl (by decide) ?_
      refine E_ic (t := 14) (b := false) rfl rfl ((cn_ge (rfl : (a3).toInt = (a3).toInt) (by decide : (8 : Int32).toInt = 8)).trans (decide_eq_false (by omega))) ?_
      refine E_iconst (x := 1) rfl (by decide) ?_
      refine E_goto (t := 15) rfl rfl ?_
      exact E_iret rfl rfl
    refine E_callS (v := some (.int 1)) (As := [.int a3]) (r0 := []) (cs2 := w0) rfl rfl rfl (Nat.le_of_ble_eq_true rfl) rfl e2 (by decide) rfl ?_
    refine E_if (t := 13) (b := true) rfl rfl (by decide) ?_
    refine E_iload_n rfl rfl ?_
    refine E_iconst (x := 0) rfl (by decide) ?_
    refine E_bipush (x := 99) rfl (by decide) ?_
    have e17 : Ev ab_Z0 1 115 [.int a1, .int 0, .int 99] w0 (some (.int 0), w0) := by
      refine Ef.in (md := mX5_isFrom) (L := [some (.int a1), some (.int 0), some (.int 99)]) rfl (Nat.le_of_ble_eq_true rfl) rfl ?_
      refine E_iload_n rfl rfl ?_
      refine E_iload_n rfl rfl ?_
      refine E_ic (t := 14) (b := false) rfl rfl ((cn_lt (rfl : (a1).toInt = (a1).toInt) (by decide : (0 : Int32).toInt = 0)).trans (decide_eq_false (by omega))) ?_
      refine E_iload_n rfl rfl ?_
      refine E_iload_n rfl rfl ?_
      refine E_ic (t := 14) (b := true) rfl rfl ((cn_gt (rfl : (a1).toInt = (a1).toInt) (by decide : (99 : Int32).toInt = 99)).trans (decide_eq_true (by omega))) ?_
      refine E_iconst (x := 0) rfl (by decide) ?_
      exact E_iret rfl rfl
    refine E_callS (v := some (.int 0)) (As := [.int a1, .int 0, .int 99]) (r0 := []) (cs2 := w0) rfl rfl rfl (Nat.le_of_ble_eq_true rfl) rfl e17 (by decide) rfl ?_
    refine E_if (t := 33) (b := true) rfl rfl (by decide) ?_
    refine E_aload_n rfl rfl ?_
    refine E_bipush (x := 6) rfl (by decide) ?_
    refine E_callV (v := some (.int (-6))) (As := [.ref 0, .int 6]) (r0 := []) (cs2 := (w0.set 48 (.inl [0, 0, 0, 0, 0, 0, 1, 0]))) rfl rfl rfl (Nat.le_of_ble_eq_true rfl) rfl rfl c33_X5_refuse (by decide) (by simp only [List.length_set]) ?_
    exact E_iret rfl rfl, by
    refine Ef.in (md := mX6_person) (L := [some (.ref 65), some (.int a1), some (.int a2), some (.int a3)]) rfl (Nat.le_of_ble_eq_true rfl) rfl ?_
    refine E_aload_n rfl rfl ?_
    refine E_iload_n rfl rfl ?_
    refine E_iconst (x := 0) rfl (by decide) ?_
    refine E_bipush (x := 7) rfl (by decide) ?_
    have e5 : Ev ab_Z0 1 134 [.ref 65, .int a3, .int 0, .int 7] (w0.set 48 (.inl [0, 0, 0, 0, 0, 0, 1, 0])) (some (.int 1), (w0.set 48 (.inl [0, 0, 0, 0, 0, 0, 1, 0]))) := by
      refine Ef.in (md := mX6_isFrom) (L := [some (.ref 65), some (.int a3), some (.int 0), some (.int 7)]) rfl (Nat.le_of_ble_eq_true rfl) rfl ?_
      refine E_iload_n rfl rfl ?_
      refine E_iload_n rfl rfl ?_
      refine E_ic (t := 14) (b := false) rfl rfl ((cn_lt (rfl : (a3).toInt = (a3).toInt) (by decide : (0 : Int32).toInt = 0)).trans (decide_eq_false (by omega))) ?_
      refine E_iload_n rfl rfl ?_
      refine E_iload_n rfl rfl ?_
      refine E_ic (t := 14) (b := false) rfl rfl ((cn_gt (rfl : (a3).toInt = (a3).toInt) (by decide : (7 : Int32).toInt = 7)).trans (decide_eq_false (by omega))) ?_
      refine E_iconst (x := 1) rfl (by decide) ?_
      refine E_goto (t := 15) rfl rfl ?_
      exact E_iret rfl rfl
    refine E_callV (v := some (.int 1)) (As := [.ref 65, .int a3, .int 0, .int 7]) (r0 := []) (cs2 := (w0.set 48 (.inl [0, 0, 0, 0, 0, 0, 1, 0]))) rfl rfl rfl (Nat.le_of_ble_eq_true rfl) rfl rfl e5 (by decide) rfl ?_
    refine E_if (t := 17) (b := true) rfl rfl (by decide) ?_
    refine E_aload_n rfl rfl ?_
    refine E_iload_n rfl rfl ?_
    refine E_iconst (x := 0) rfl (by decide) ?_
    refine E_bipush (x := 99) rfl (by decide) ?_
    have e22 : Ev ab_Z0 1 134 [.ref 65, .int a1, .int 0, .int 99] (w0.set 48 (.inl [0, 0, 0, 0, 0, 0, 1, 0])) (some (.int 0), (w0.set 48 (.inl [0, 0, 0, 0, 0, 0, 1, 0]))) := by
      refine Ef.in (md := mX6_isFrom) (L := [some (.ref 65), some (.int a1), some (.int 0), some (.int 99)]) rfl (Nat.le_of_ble_eq_true rfl) rfl ?_
      refine E_iload_n rfl rfl ?_
      refine E_iload_n rfl rfl ?_
      refine E_ic (t := 14) (b := false) rfl rfl ((cn_lt (rfl : (a1).toInt = (a1).toInt) (by decide : (0 : Int32).toInt = 0)).trans (decide_eq_false (by omega))) ?_
      refine E_iload_n rfl rfl ?_
      refine E_iload_n rfl rfl ?_
      refine E_ic (t := 14) (b := true) rfl rfl ((cn_gt (rfl : (a1).toInt = (a1).toInt) (by decide : (99 : Int32).toInt = 99)).trans (decide_eq_true (by omega))) ?_
      refine E_iconst (x := 0) rfl (by decide) ?_
      exact E_iret rfl rfl
    refine E_callV (v := some (.int 0)) (As := [.ref 65, .int a1, .int 0, .int 99]) (r0 := []) (cs2 := (w0.set 48 (.inl [0, 0, 0, 0, 0, 0, 1, 0]))) rfl rfl rfl (Nat.le_of_ble_eq_true rfl) rfl rfl e22 (by decide) rfl ?_
    refine E_if (t := 39) (b := true) rfl rfl (by decide) ?_
    refine E_aload_n rfl rfl ?_
    refine E_bipush (x := (-6)) rfl (by decide) ?_
    refine E_callV (v := some (.int (-6))) (As := [.ref 65, .int (-6)]) (r0 := []) (cs2 := ((w0.set 48 (.inl [0, 0, 0, 0, 0, 0, 1, 0])).set 66 (.inl [0, 0, 0, 0, 0, 0, 1, 0]))) rfl rfl rfl (Nat.le_of_ble_eq_true rfl) rfl rfl c35_X6_no (by decide) (by simp only [List.length_set]) ?_
    exact E_iret rfl rfl, (by simp only [List.length_set]; rfl), (by simp only [List.length_set]; rfl), ((ab_szs rfl).trans ((ab_szs rfl).trans rfl))⟩
theorem f_person_7 (a1 a2 a3 : Int32) (ha3l : (8 : Int) ≤ a3.toInt) : p1_P 3 84 2 149 [.ref 0, .int a1, .int a2, .int a3] [.ref 65, .int a1, .int a2, .int a3] :=
  ⟨(-1), (w0.set 48 (.inl [0, 1, 0, 0, 0, 0, 0, 0])), ((w0.set 48 (.inl [0, 1, 0, 0, 0, 0, 0, 0])).set 66 (.inl [0, 1, 0, 0, 0, 0, 0, 0])), by
    refine Ef.in (md := mX5_person) (L := [some (.ref 0), some (.int a1), some (.int a2), some (.int a3)]) rfl (Nat.le_of_ble_eq_true rfl) rfl ?_
    refine E_iload_n rfl rfl ?_
    have e2 : Ev ab_Z0 1 47 [.int a3] w0 (some (.int 0), w0) := by
      refine Ef.in (md := mX4_isWish) (L := [some (.int a3)]) rfl (Nat.le_of_ble_eq_true rfl) rfl ?_
      refine E_iload_n rfl rfl ?_
      refine E_if (t := 14) (b := false) rfl rfl ((cn_lt (rfl : (a3).toInt = (a3).toInt) (by decide : (0 : Int32).toInt = 0)).trans (decide_eq_false (by omega))) ?_
      refine E_iload_n rfl rfl ?_
      refine E_bipush (x := 8) rfl (by decide) ?_
      refine E_ic (t := 14) (b := true) rfl rfl ((cn_ge (rfl : (a3).toInt = (a3).toInt) (by decide : (8 : Int32).toInt = 8)).trans (decide_eq_true (by omega))) ?_
      refine E_iconst (x := 0) rfl (by decide) ?_
      exact E_iret rfl rfl
    refine E_callS (v := some (.int 0)) (As := [.int a3]) (r0 := []) (cs2 := w0) rfl rfl rfl (Nat.le_of_ble_eq_true rfl) rfl e2 (by decide) rfl ?_
    refine E_if (t := 13) (b := false) rfl rfl (by decide) ?_
    refine E_aload_n rfl rfl ?_
    refine E_iconst (x := 1) rfl (by decide) ?_
    refine E_callV (v := some (.int (-1))) (As := [.ref 0, .int 1]) (r0 := []) (cs2 := (w0.set 48 (.inl [0, 1, 0, 0, 0, 0, 0, 0]))) rfl rfl rfl (Nat.le_of_ble_eq_true rfl) rfl rfl c42_X5_refuse (by decide) (by simp only [List.length_set]) ?_
    exact E_iret rfl rfl, by
    refine Ef.in (md := mX6_person) (L := [some (.ref 65), some (.int a1), some (.int a2), some (.int a3)]) rfl (Nat.le_of_ble_eq_true rfl) rfl ?_
    refine E_aload_n rfl rfl ?_
    refine E_iload_n rfl rfl ?_
    refine E_iconst (x := 0) rfl (by decide) ?_
    refine E_bipush (x := 7) rfl (by decide) ?_
    have e5 : Ev ab_Z0 1 134 [.ref 65, .int a3, .int 0, .int 7] (w0.set 48 (.inl [0, 1, 0, 0, 0, 0, 0, 0])) (some (.int 0), (w0.set 48 (.inl [0, 1, 0, 0, 0, 0, 0, 0]))) := by
      refine Ef.in (md := mX6_isFrom) (L := [some (.ref 65), some (.int a3), some (.int 0), some (.int 7)]) rfl (Nat.le_of_ble_eq_true rfl) rfl ?_
      refine E_iload_n rfl rfl ?_
      refine E_iload_n rfl rfl ?_
      refine E_ic (t := 14) (b := false) rfl rfl ((cn_lt (rfl : (a3).toInt = (a3).toInt) (by decide : (0 : Int32).toInt = 0)).trans (decide_eq_false (by omega))) ?_
      refine E_iload_n rfl rfl ?_
      refine E_iload_n rfl rfl ?_
      refine E_ic (t := 14) (b := true) rfl rfl ((cn_gt (rfl : (a3).toInt = (a3).toInt) (by decide : (7 : Int32).toInt = 7)).trans (decide_eq_true (by omega))) ?_
      refine E_iconst (x := 0) rfl (by decide) ?_
      exact E_iret rfl rfl
    refine E_callV (v := some (.int 0)) (As := [.ref 65, .int a3, .int 0, .int 7]) (r0 := []) (cs2 := (w0.set 48 (.inl [0, 1, 0, 0, 0, 0, 0, 0]))) rfl rfl rfl (Nat.le_of_ble_eq_true rfl) rfl rfl e5 (by decide) rfl ?_
    refine E_if (t := 17) (b := false) rfl rfl (by decide) ?_
    refine E_aload_n rfl rfl ?_
    refine E_iconst (x := (-1)) rfl (by decide) ?_
    refine E_callV (v := some (.int (-1))) (As := [.ref 65, .int (-1)]) (r0 := []) (cs2 := ((w0.set 48 (.inl [0, 1, 0, 0, 0, 0, 0, 0])).set 66 (.inl [0, 1, 0, 0, 0, 0, 0, 0]))) rfl rfl rfl (Nat.le_of_ble_eq_true rfl) rfl rfl c44_X6_no (by decide) (by simp only [List.length_set]) ?_
    exact E_iret rfl rfl, (by simp only [List.length_set]; rfl), (by simp only [List.length_set]; rfl), ((ab_szs rfl).trans ((ab_szs rfl).trans rfl))⟩
theorem f_person (a1 a2 a3 : Int32) : p1_P 3 84 2 149 [.ref 0, .int a1, .int a2, .int a3] [.ref 65, .int a1, .int a2, .int a3] := by
  rcases ab_ltge a3.toInt (0) with h | h
  · exact f_person_1 a1 a2 a3 (by omega)
  rcases ab_ltge a3.toInt (8) with h | h
  · rcases ab_ltge a1.toInt (0) with h | h
    · exact f_person_2 a1 a2 a3 (by omega) (by omega) (by omega)
    rcases ab_ltge a1.toInt (100) with h | h
    · rcases ab_ltge a2.toInt (0) with h | h
      · exact f_person_3 a1 a2 a3 (by omega) (by omega) (by omega) (by omega) (by omega)
      rcases ab_ltge a2.toInt (10) with h | h
      · exact f_person_4 a1 a2 a3 (by omega) (by omega) (by omega) (by omega) (by omega) (by omega)
      exact f_person_5 a1 a2 a3 (by omega) (by omega) (by omega) (by omega) (by omega)
    exact f_person_6 a1 a2 a3 (by omega) (by omega) (by omega)
  exact f_person_7 a1 a2 a3 (by omega)
end
