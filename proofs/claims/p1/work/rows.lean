section
/-! A machine of worlds (ab_): what a method does to a list of cells, as a function. References are places in that list. -/
abbrev ab_C : Type := List Int32 ⊕ (List Int64 ⊕ (List (Option Nat) ⊕ (Nat × List Value)))
abbrev ab_L : Type := List (Option Value)
abbrev ab_S : Type := Nat × ab_L × List Value × List ab_C
abbrev ab_K : Type := Nat × Nat × Nat
abbrev ab_I : Type := Instr × Nat × ab_K × List Nat
/-- a method: its name, bytes, locals, answer, class, number of arguments, whether it makes objects, code -/
abbrev ab_D : Type := MethodName × ByteArray × Nat × Option FieldType × Nat × Nat × Bool × List (List (Option ab_I))
/-- a class: its name, fields, how many, their types -/
abbrev ab_T : Type := String × u_T × Nat × (Nat → FieldType)
abbrev ab_Q : Type := ClassId × ClassId × ClassId
def ab_v (ad : Nat → Nat) : Value → Value
  | .ref k => .ref (ad k)
  | v => v
def ab_e (K : ab_Q) (ad : Nat → Nat) : ab_C → va_E
  | .inl l => .inl (K.1, l.length, .inl (fun j => l.getD j 0))
  | .inr (.inl l) => .inl (K.2.1, l.length, .inr (.inl (fun j => l.getD j 0)))
  | .inr (.inr (.inl l)) => .inl (K.2.2, l.length, .inr (.inr (.inr (.inr (fun j => (l.getD j none).map ad)))))
  | .inr (.inr (.inr o)) => .inr (o.1, o.2.map (ab_v ad))
def ab_w (K : ab_Q) (ad : Nat → Nat) : Nat → List ab_C → va_W
  | _, [] => []
  | n, c :: r => (ad n, ab_e K ad c) :: ab_w K ad (n + 1) r
def ab_sc : ab_C → Nat
  | .inl l => l.length
  | .inr (.inl l) => l.length
  | .inr (.inr (.inl l)) => l.length
  | .inr (.inr (.inr o)) => o.2.length
def ab_sz (cs : List ab_C) : Nat := (cs.map ab_sc).sum
-- references are places that are there
def ab_fv (n : Nat) : Value → Bool
  | .ref k => decide (k < n ∨ 1000000 ≤ k)
  | _ => true
def ab_fo (n : Nat) : Option Value → Bool
  | some v => ab_fv n v
  | none => true
def ab_fc (n : Nat) : ab_C → Bool
  | .inl _ => true
  | .inr (.inl _) => true
  | .inr (.inr (.inl l)) => l.all (fun o => match o with | some k => decide (k < n) | none => true)
  | .inr (.inr (.inr o)) => o.2.all (ab_fv n)
-- steps that touch the stack alone
def ab_tg (pc : Nat) (off : Int) : Option Nat := match (pc : Int) + off with
  | .ofNat t => some t
  | .negSucc _ => none
def ab_cn (c : ClassFile.Cond) (x y : Int32) : Bool := match c with
  | .eq => decide (x = y)
  | .ne => decide (¬ x = y)
  | .lt => decide (x < y)
  | .ge => decide (y ≤ x)
  | .gt => decide (y < x)
  | .le => decide (x ≤ y)
def ab_i2 (ins : Instr) (x y : Int32) : Option Int32 := match ins with
  | .iadd => some (x + y)
  | .isub => some (x - y)
  | .imul => some (x * y)
  | .iand => some (x &&& y)
  | .ior => some (x ||| y)
  | .ixor => some (x ^^^ y)
  | .idiv => if y = 0 then none else some (x / y)
  | .irem => if y = 0 then none else some (x - x / y * y)
  | .ishl => some (x <<< (y &&& 31))
  | .ishr => some (x >>> (y &&& 31))
  | .iushr => some (x.toUInt32 >>> (y.toUInt32 &&& Int32.toUInt32 31)).toInt32
  | _ => none
def ab_i1 (ins : Instr) (x : Int32) : Option Value := match ins with
  | .ineg => some (.int (-x))
  | .i2l => some (.long x.toInt64)
  | .i2b => some (.int x.toInt8.toInt32)
  | .i2s => some (.int x.toInt16.toInt32)
  | .i2c => some (.int (x.toUInt32 % 65536).toInt32)
  | _ => none
def ab_ln (ins : Instr) : Nat := match ins with
  | .tableswitch .. => 0
  | .lookupswitch .. => 0
  | .bipush _ | .iload _ | .aload _ | .lload _ | .istore _ | .astore _ | .lstore _ | .newarray _ | .ldc _ => 2
  | .sipush _ | .goto _ | .ifCond .. | .if_icmp .. | .iinc .. | .getfield _ | .putfield _ | .getstatic _ | .invokevirtual _ | .invokestatic _ | .invokespecial _ | .new _ | .anewarray _ | .ldc_w _ | .ldc2_w _ => 3
  | _ => 1
def ab_pu (ins : Instr) (pc : Nat) (st : List Value) : Option (Nat × List Value) := match ins with
  | .iconst n => some (pc + 1, .int (Int32.ofInt n) :: st)
  | .bipush n => some (pc + 2, .int (Int8.ofInt n).toInt32 :: st)
  | .sipush n => some (pc + 3, .int (Int16.ofInt n).toInt32 :: st)
  | .lconst n => some (pc + 1, .long (Int64.ofNat n) :: st)
  | .dup => match st with
    | v :: r => if v.category = 1 then some (pc + 1, v :: v :: r) else none
    | _ => none
  | .pop => match st with
    | v :: r => if v.category = 1 then some (pc + 1, r) else none
    | _ => none
  | .dup2 => match st with
    | v :: w :: r => if v.category = 1 ∧ w.category = 1 then some (pc + 1, v :: w :: v :: w :: r) else none
    | _ => none
  | .dup_x1 => match st with
    | v :: w :: r => if v.category = 1 ∧ w.category = 1 then some (pc + 1, v :: w :: v :: r) else none
    | _ => none
  | .goto off => match ab_tg pc off with
    | some t => some (t, st)
    | none => none
  | .ifCond c off => match st with
    | .int x :: r => match ab_tg pc off with
      | some t => some (cond (ab_cn c x 0) t (pc + 3), r)
      | none => none
    | _ => none
  | .if_icmp c off => match st with
    | .int y :: .int x :: r => match ab_tg pc off with
      | some t => some (cond (ab_cn c x y) t (pc + 3), r)
      | none => none
    | _ => none
  | .l2i => match st with
    | .long x :: r => some (pc + 1, .int x.toInt32 :: r)
    | _ => none
  | .lshl => match st with
    | .int y :: .long x :: r => some (pc + 1, .long (x <<< (y.toInt64 &&& 63)) :: r)
    | _ => none
  | .lor => match st with
    | .long y :: .long x :: r => some (pc + 1, .long (x ||| y) :: r)
    | _ => none
  | .land => match st with
    | .long y :: .long x :: r => some (pc + 1, .long (x &&& y) :: r)
    | _ => none
  | .lcmp => match st with
    | .long y :: .long x :: r => some (pc + 1, .int (lg_cmp x y) :: r)
    | _ => none
  | .tableswitch dflt lo hi offs => match st with
    | .int x :: r => if x.toInt < lo ∨ hi < x.toInt then (match ab_tg pc dflt with
        | some t => some (t, r)
        | none => none) else (match offs[(x.toInt - lo).toNat]? with
        | some off => (match ab_tg pc off with
          | some t => some (t, r)
          | none => none)
        | none => none)
    | _ => none
  | .lookupswitch dflt ps => match st with
    | .int x :: r => if (ps.toList.zip (ps.toList.drop 1)).all (fun (a, next) => a.1 < next.1) = true then (match ab_tg pc (Op.lookupswitch.offset ps.toList dflt x.toInt) with
        | some t => some (t, r)
        | none => none) else none
    | _ => none
  | ins => match st with
    | .int y :: r => match ab_i1 ins y with
      | some z => some (pc + 1, z :: r)
      | none => match r with
        | .int x :: r => match ab_i2 ins x y with
          | some z => some (pc + 1, .int z :: r)
          | none => none
        | _ => none
    | _ => none
-- steps that touch stack and locals
def ab_c2 : Option Value → Bool
  | some (.long _) => true
  | some (.double _) => true
  | _ => false
def ab_lg (L : ab_L) (i : Nat) : Option Value := match L[i]? with
  | some o => o
  | none => none
def ab_l1 (L : ab_L) (i : Nat) (v : Value) : Option ab_L := if i < L.length ∧ (0 < i → ab_c2 (ab_lg L (i - 1)) = false) then some (L.set i (some v)) else none
def ab_l2 (L : ab_L) (i : Nat) (v : Value) : Option ab_L := if i + 1 < L.length ∧ (0 < i → ab_c2 (ab_lg L (i - 1)) = false) then some ((L.set i (some v)).set (i + 1) none) else none
def ab_ld (t : Nat) (L : ab_L) (i : Nat) : Option Value := match t, ab_lg L i with
  | 0, some (.int x) => some (.int x)
  | 1, some (.long x) => some (.long x)
  | 2, some (.ref x) => some (.ref x)
  | _, _ => none
def ab_so (t : Nat) (L : ab_L) (i : Nat) (v : Value) : Option ab_L := match t, v with
  | 0, .int x => ab_l1 L i (.int x)
  | 1, .long x => ab_l2 L i (.long x)
  | 2, .ref x => ab_l1 L i (.ref x)
  | _, _ => none
def ab_lk (ins : Instr) : Option (Bool × Nat × Nat) := match ins with
  | .iload i => some (false, 0, i)
  | .iload_n i => some (false, 0, i.val)
  | .lload i => some (false, 1, i)
  | .lload_n i => some (false, 1, i.val)
  | .aload i => some (false, 2, i)
  | .aload_n i => some (false, 2, i.val)
  | .istore i => some (true, 0, i)
  | .istore_n i => some (true, 0, i.val)
  | .lstore i => some (true, 1, i)
  | .lstore_n i => some (true, 1, i.val)
  | .astore i => some (true, 2, i)
  | .astore_n i => some (true, 2, i.val)
  | _ => none
def ab_lo (ins : Instr) (L : ab_L) (st : List Value) : Option (ab_L × List Value) := match ab_lk ins with
  | some (false, t, i) => match ab_ld t L i with
    | some v => some (L, v :: st)
    | none => none
  | some (true, t, i) => match st with
    | v :: r => match ab_so t L i v with
      | some L2 => some (L2, r)
      | none => none
    | _ => none
  | none => match ins with
    | .iinc i n => match ab_lg L i with
      | some (.int x) => match ab_l1 L i (.int (x + Int32.ofInt n)) with
        | some L2 => some (L2, st)
        | none => none
      | _ => none
    | _ => none
/-- the class whose objects the arrays of references hold; arrays that stay as they are -/
abbrev ab_Z : Type := Nat × List (List Int32)
-- steps that touch the world, none of whose cells is new
def ab_ft (ty : FieldType) (v : Value) : Bool := match ty, v with
  | .int, .int _ => true
  | .long, .long _ => true
  | .boolean, .int x => x == 0 || x == 1
  | .object _, .ref _ => true
  | .array _, .ref _ => true
  | .object _, .null => true
  | .array _, .null => true
  | _, _ => false
def ab_cp {α : Type} (f g : List α) (sp dp n : Nat) : List α := g.take dp ++ ((f.drop sp).take n ++ g.drop (dp + n))
def ab_sm (st : List Value) : Nat := (st.map fun v => v.category).sum
def ab_vr (o : Option Nat) : Value := match o with
  | some k => .ref k
  | none => .null
def ab_gf (G : Nat → Option ab_T) (ci f : Nat) (st : List Value) (cs : List ab_C) : Option (List Value × List ab_C) := match st with
  | .ref a :: r => match cs[a]?, G ci with
    | some (.inr (.inr (.inr (ci2, fs)))), some (_, _, N, _) => if ci2 = ci ∧ f < N then (match fs[f]? with
      | some v => some (v :: r, cs)
      | none => none) else none
    | _, _ => none
  | _ => none
def ab_pf (G : Nat → Option ab_T) (own : Nat) (isI : Bool) (ci f : Nat) (st : List Value) (cs : List ab_C) : Option (List Value × List ab_C) := match st with
  | v :: .ref a :: r => match cs[a]?, G ci with
    | some (.inr (.inr (.inr (ci2, fs)))), some (_, T, N, ty) => if ci2 = ci ∧ f < N ∧ f < fs.length ∧ ab_ft (ty f) v = true ∧ ((T f).2.2.2 = true → isI = true ∧ ci = own) then some (r, cs.set a (.inr (.inr (.inr (ci2, fs.set f v))))) else none
    | _, _ => none
  | _ => none
def ab_ia (Tb : List (List Int32)) (st : List Value) (cs : List ab_C) : Option (List Value × List ab_C) := match st with
  | .int i :: .ref a :: r => match cs[a]? with
    | some (.inl l) => if i < 0 ∨ l.length ≤ i.toNatClampNeg then none else some (.int (l.getD i.toNatClampNeg 0) :: r, cs)
    | none => match Tb[a - 1000000]? with
      | some l => if a < 1000000 ∨ i < 0 ∨ l.length ≤ i.toNatClampNeg then none else some (.int (l.getD i.toNatClampNeg 0) :: r, cs)
      | none => none
    | _ => none
  | _ => none
def ab_la (st : List Value) (cs : List ab_C) : Option (List Value × List ab_C) := match st with
  | .int i :: .ref a :: r => match cs[a]? with
    | some (.inr (.inl l)) => if i < 0 ∨ l.length ≤ i.toNatClampNeg then none else some (.long (l.getD i.toNatClampNeg 0) :: r, cs)
    | _ => none
  | _ => none
def ab_aa (st : List Value) (cs : List ab_C) : Option (List Value × List ab_C) := match st with
  | .int i :: .ref a :: r => match cs[a]? with
    | some (.inr (.inr (.inl l))) => if i < 0 ∨ l.length ≤ i.toNatClampNeg then none else some (ab_vr (l.getD i.toNatClampNeg none) :: r, cs)
    | _ => none
  | _ => none
def ab_is (st : List Value) (cs : List ab_C) : Option (List Value × List ab_C) := match st with
  | .int x :: .int i :: .ref a :: r => match cs[a]? with
    | some (.inl l) => if i < 0 ∨ l.length ≤ i.toNatClampNeg then none else some (r, cs.set a (.inl (l.set i.toNatClampNeg x)))
    | _ => none
  | _ => none
def ab_lst (st : List Value) (cs : List ab_C) : Option (List Value × List ab_C) := match st with
  | .long x :: .int i :: .ref a :: r => match cs[a]? with
    | some (.inr (.inl l)) => if i < 0 ∨ l.length ≤ i.toNatClampNeg then none else some (r, cs.set a (.inr (.inl (l.set i.toNatClampNeg x))))
    | _ => none
  | _ => none
def ab_as (cq : Nat) (st : List Value) (cs : List ab_C) : Option (List Value × List ab_C) := match st with
  | .ref v :: .int i :: .ref a :: r => match cs[a]?, cs[v]? with
    | some (.inr (.inr (.inl l))), some (.inr (.inr (.inr (ci, _)))) => if ci = cq then (if i < 0 ∨ l.length ≤ i.toNatClampNeg then none else some (r, cs.set a (.inr (.inr (.inl (l.set i.toNatClampNeg (some v))))))) else none
    | _, _ => none
  | _ => none
def ab_al (Tb : List (List Int32)) (st : List Value) (cs : List ab_C) : Option (List Value × List ab_C) := match st with
  | .ref a :: r => match cs[a]? with
    | some (.inl l) => some (.int (Int32.ofNat l.length) :: r, cs)
    | some (.inr (.inl l)) => some (.int (Int32.ofNat l.length) :: r, cs)
    | some (.inr (.inr (.inl l))) => some (.int (Int32.ofNat l.length) :: r, cs)
    | none => match Tb[a - 1000000]? with
      | some l => if a < 1000000 then none else some (.int (Int32.ofNat l.length) :: r, cs)
      | none => none
    | _ => none
  | _ => none
def ab_cy (st : List Value) (cs : List ab_C) : Option (List Value × List ab_C) := match st with
  | .int n :: .int dp :: .ref a :: .int sp :: .ref a0 :: r => if n < 0 ∨ dp < 0 ∨ sp < 0 ∨ 8 < ab_sm r then none else (match cs[a0]?, cs[a]? with
    | some (.inl f), some (.inl g) => if sp.toNatClampNeg + n.toNatClampNeg ≤ f.length ∧ dp.toNatClampNeg + n.toNatClampNeg ≤ g.length then some (r, cs.set a (.inl (ab_cp f g sp.toNatClampNeg dp.toNatClampNeg n.toNatClampNeg))) else none
    | some (.inr (.inl f)), some (.inr (.inl g)) => if sp.toNatClampNeg + n.toNatClampNeg ≤ f.length ∧ dp.toNatClampNeg + n.toNatClampNeg ≤ g.length then some (r, cs.set a (.inr (.inl (ab_cp f g sp.toNatClampNeg dp.toNatClampNeg n.toNatClampNeg)))) else none
    | _, _ => none)
  | _ => none
def ab_mx (st : List Value) (cs : List ab_C) : Option (List Value × List ab_C) := match st with
  | .int y :: .int x :: r => if ab_sm r ≤ 8 then some (.int (if x < y then y else x) :: r, cs) else none
  | _ => none
def ab_mn (st : List Value) (cs : List ab_C) : Option (List Value × List ab_C) := match st with
  | .int y :: .int x :: r => if ab_sm r ≤ 8 then some (.int (if y < x then y else x) :: r, cs) else none
  | _ => none
def ab_oi (st : List Value) (cs : List ab_C) : Option (List Value × List ab_C) := match st with
  | .ref _ :: r => if ab_sm r ≤ 8 then some (r, cs) else none
  | _ => none
def ab_hp (G : Nat → Option ab_T) (Z : ab_Z) (own : Nat) (isI : Bool) (ins : Instr) (k : ab_K) (st : List Value) (cs : List ab_C) : Option (List Value × List ab_C) := match ins with
  | .getfield _ => if k.1 = 1 then ab_gf G k.2.1 k.2.2 st cs else none
  | .putfield _ => if k.1 = 1 then ab_pf G own isI k.2.1 k.2.2 st cs else none
  | .iaload => ab_ia Z.2 st cs
  | .laload => ab_la st cs
  | .aaload => ab_aa st cs
  | .iastore => ab_is st cs
  | .lastore => ab_lst st cs
  | .aastore => ab_as Z.1 st cs
  | .arraylength => ab_al Z.2 st cs
  | .invokestatic _ => if k.1 = 7 then ab_mx st cs else if k.1 = 8 then ab_mn st cs else if k.1 = 9 then ab_cy st cs else none
  | .invokespecial _ => if k.1 = 6 then ab_oi st cs else none
  | .ldc _ => if k.1 = 10 then some (.int (Int32.ofNat k.2.1) :: st, cs) else none
  | .ldc_w _ => if k.1 = 10 then some (.int (Int32.ofNat k.2.1) :: st, cs) else none
  | .ldc2_w _ => if k.1 = 11 then some (.long (Int64.ofNat k.2.1) :: st, cs) else none
  | .getstatic _ => if k.1 = 13 then some (.ref (1000000 + k.2.1) :: st, cs) else none
  | _ => none
-- new cells
def ab_df (ty : Nat → FieldType) (N : Nat) : List Value := (List.range N).map (fun j => defaultValue (ty j))
def ab_nw (G : Nat → Option ab_T) (cq : Nat) (ins : Instr) (k : ab_K) (st : List Value) : Option (List Value × ab_C) := match ins with
  | .new _ => if k.1 = 2 then (match G k.2.1 with
    | some (_, _, N, ty) => some (st, .inr (.inr (.inr (k.2.1, ab_df ty N))))
    | none => none) else none
  | .newarray ty => match st with
    | .int n :: r => if n < 0 ∨ 1000000 < n.toNatClampNeg then none else (match ty with
      | .int => some (r, .inl (List.replicate n.toNatClampNeg 0))
      | .long => some (r, .inr (.inl (List.replicate n.toNatClampNeg 0)))
      | _ => none)
    | _ => none
  | .anewarray _ => match st with
    | .int n :: r => if n < 0 ∨ 1000000 < n.toNatClampNeg ∨ ¬ k.1 = 12 ∨ ¬ k.2.1 = cq then none else some (r, .inr (.inr (.inl (List.replicate n.toNatClampNeg none))))
    | _ => none
  | _ => none
-- calls and ends
def ab_re (ret : Option FieldType) (ins : Instr) (st : List Value) : Option (Option Value) := match ins with
  | .ireturn => match st with
    | [.int x] => match ret with
      | some .int => some (some (.int x))
      | some .boolean => if x = 0 ∨ x = 1 then some (some (.int x)) else none
      | _ => none
    | _ => none
  | .lreturn => match st with
    | [.long x] => match ret with
      | some .long => some (some (.long x))
      | _ => none
    | _ => none
  | .return_ => match st with
    | [] => match ret with
      | none => some none
      | _ => none
    | _ => none
  | _ => none
/-- a call: the callee, its arguments, the rest of the stack -/
def ab_ca (ins : Instr) (k : ab_K) (st : List Value) : Option (Nat × List Value × List Value) := match ins with
  | .invokevirtual _ => if k.1 = 3 ∧ k.2.2 < st.length then some (k.2.1, (st.take (k.2.2 + 1)).reverse, st.drop (k.2.2 + 1)) else none
  | .invokestatic _ => if k.1 = 4 ∧ k.2.2 ≤ st.length then some (k.2.1, (st.take k.2.2).reverse, st.drop k.2.2) else none
  | .invokespecial _ => if (k.1 = 5 ∨ k.1 = 15) ∧ k.2.2 < st.length then some (k.2.1, (st.take (k.2.2 + 1)).reverse, st.drop (k.2.2 + 1)) else none
  | _ => none
def ab_ag : List Value → ab_L
  | [] => []
  | v :: r => if v.category = 2 then some v :: none :: ab_ag r else some v :: ab_ag r
def ab_at (md : ab_D) (pc : Nat) : Option ab_I := match md.2.2.2.2.2.2.2[pc / 16]? with
  | some row => match row[pc % 16]? with
    | some o => o
    | none => none
  | none => none
/-- the receiver of a virtual call is of the callee's class -/
def ab_rv (G : Nat → Option ab_T) (own : Nat) (As : List Value) (cs : List ab_C) : Bool := match As with
  | .ref a :: _ => match cs[a]? with
    | some (.inr (.inr (.inr (ci, _)))) => decide (ci = own) && (G own).isSome
    | _ => false
  | _ => false
def ab_rf (As : List Value) : Bool := match As with
  | .ref _ :: _ => true
  | _ => false
def ab_fr (M : List ab_D) (G : Nat → Option ab_T) (Z : ab_Z) (call : Nat → List Value → List ab_C → Option (Option Value × List ab_C)) (md : ab_D) : Nat → ab_S → Option (Option Value × List ab_C)
  | 0, _ => none
  | f + 1, (pc, L, st, cs) => match ab_at md pc with
    | none => none
    | some (ins, len, k, _) => if ¬ (ab_ln ins = len ∨ ab_ln ins = 0) then none else
      match ab_pu ins pc st with
      | some (pc2, st2) => ab_fr M G Z call md f (pc2, L, st2, cs)
      | none => match ab_lo ins L st with
        | some (L2, st2) => ab_fr M G Z call md f (pc + len, L2, st2, cs)
        | none => match ab_hp G Z md.2.2.2.2.1 md.2.2.2.2.2.2.1 ins k st cs with
          | some (st2, cs2) => ab_fr M G Z call md f (pc + len, L, st2, cs2)
          | none => match ab_re md.2.2.2.1 ins st with
            | some v => some (v, cs)
            | none => match ab_nw G Z.1 ins k st with
              | some (st2, c) => if cs.length < 1000000 ∧ (L.all (ab_fo cs.length) && (st2.all (ab_fv cs.length) && cs.all (ab_fc cs.length))) = true then ab_fr M G Z call md f (pc + len, L, .ref cs.length :: st2, cs ++ [c]) else none
              | none => match ab_ca ins k st with
                | none => none
                | some (y, As, r) => match M[y]? with
                  | none => none
                  | some my => if ab_sm r ≤ 8 ∧ As.length = my.2.2.2.2.2.1 + cond (k.1 == 4) 0 1 ∧ (k.1 = 3 → ab_rv G my.2.2.2.2.1 As cs = true) ∧ (k.1 = 5 ∨ k.1 = 15 → my.2.2.2.2.2.2.1 = true ∧ my.2.2.2.1 = none ∧ ab_rf As = true) then
                    match call y As cs with
                    | none => none
                    | some (v, cs2) => if cs2.length = cs.length ∨ (L.all (ab_fo cs.length) && r.all (ab_fv cs.length)) = true then ab_fr M G Z call md f (pc + 3, L, v.toList ++ r, cs2) else none
                    else none
def ab_run (M : List ab_D) (G : Nat → Option ab_T) (Z : ab_Z) : Nat → Nat → Nat → List Value → List ab_C → Option (Option Value × List ab_C)
  | 0, _, _, _, _ => none
  | d + 1, f, y, As, cs => match M[y]? with
    | none => none
    | some md => if (ab_ag As).length ≤ md.2.2.1 then ab_fr M G Z (fun y As cs => ab_run M G Z d f y As cs) md f (0, ab_ag As ++ List.replicate (md.2.2.1 - (ab_ag As).length) none, [], cs) else none
end
section
/-! The machine of worlds is the machine's: step by step -/
theorem ab_len {ins : Instr} {len n : Nat} (e : ab_ln ins = n + 1) (h : ab_ln ins = len ∨ ab_ln ins = 0) : len = n + 1 := by omega
theorem ab_v_cat (ad : Nat → Nat) (v : Value) : (ab_v ad v).category = v.category := by cases v <;> rfl
theorem ab_sm_map (ad : Nat → Nat) (st : List Value) : ((st.map (ab_v ad)).map fun v => v.category).sum = ab_sm st := by
  unfold ab_sm
  rw [List.map_map]
  congr 1
  exact List.map_congr_left (fun v _ => ab_v_cat ad v)
theorem ab_tg_ok {pc t : Nat} {off : Int} (h : ab_tg pc off = some t) : (pc : Int) + off = (t : Int) := by
  unfold ab_tg at h
  split at h
  · rename_i q e
    cases h
    exact e
  · cases h
section ABS
variable {p : Program} {l : Launch} {e : Env} {R : Room} {s : State} {m : MethodId} {args : Array Value} {below : List Frame} {meth : Method} {c : Code} {H : Heap} {locs : List Loc} {cells slots : Nat} {Q : State → Prop}
variable {cc : ByteArray} {pc : Nat} {ls : Array Slot} {rest : List Value}
theorem ab_if_ok (hx : p.tables.exec = Jvm.exec) (hb : c.code = cc) {x : Int32} {off : Int} {tgt : Nat} {o : ClassFile.Cond} (hdg : decode cc pc = .ok (.ifCond o off, 3)) (ht : (pc : Int) + off = (tgt : Int))
    (k : W p l e R s m args below meth c H locs cells slots Q (F0 m (cond (ab_cn o x 0) tgt (pc + 3)) ls rest)) : W p l e R s m args below meth c H locs cells slots Q (F0 m pc ls (.int x :: rest)) := by
  cases o
  · exact lv_if_eq hx hb hdg ht (fun h => by rw [show ab_cn .eq x 0 = true from decide_eq_true h] at k; exact k) (fun h => by rw [show ab_cn .eq x 0 = false from decide_eq_false h] at k; exact k)
  · exact lv_if_ne hx hb hdg ht (fun h => by rw [show ab_cn .ne x 0 = true from decide_eq_true h] at k; exact k) (fun h => by rw [show ab_cn .ne x 0 = false from decide_eq_false (fun q => q h)] at k; exact k)
  · exact lv_if_lt hx hb hdg ht (fun h => by rw [show ab_cn .lt x 0 = true from decide_eq_true h] at k; exact k) (fun h => by rw [show ab_cn .lt x 0 = false from decide_eq_false h] at k; exact k)
  · exact lv_if_ge hx hb hdg ht (fun h => by rw [show ab_cn .ge x 0 = true from decide_eq_true h] at k; exact k) (fun h => by rw [show ab_cn .ge x 0 = false from decide_eq_false h] at k; exact k)
  · exact lv_if_gt hx hb hdg ht (fun h => by rw [show ab_cn .gt x 0 = true from decide_eq_true h] at k; exact k) (fun h => by rw [show ab_cn .gt x 0 = false from decide_eq_false h] at k; exact k)
  · exact lv_if_le hx hb hdg ht (fun h => by rw [show ab_cn .le x 0 = true from decide_eq_true h] at k; exact k) (fun h => by rw [show ab_cn .le x 0 = false from decide_eq_false h] at k; exact k)
theorem ab_ic_ok (hx : p.tables.exec = Jvm.exec) (hb : c.code = cc) {x y : Int32} {off : Int} {tgt : Nat} {o : ClassFile.Cond} (hdg : decode cc pc = .ok (.if_icmp o off, 3)) (ht : (pc : Int) + off = (tgt : Int))
    (k : W p l e R s m args below meth c H locs cells slots Q (F0 m (cond (ab_cn o x y) tgt (pc + 3)) ls rest)) : W p l e R s m args below meth c H locs cells slots Q (F0 m pc ls (.int y :: .int x :: rest)) := by
  cases o
  · exact lv_icmp_eq hx hb hdg ht (fun h => by rw [show ab_cn .eq x y = true from decide_eq_true h] at k; exact k) (fun h => by rw [show ab_cn .eq x y = false from decide_eq_false h] at k; exact k)
  · exact lv_icmp_ne hx hb hdg ht (fun h => by rw [show ab_cn .ne x y = true from decide_eq_true h] at k; exact k) (fun h => by rw [show ab_cn .ne x y = false from decide_eq_false (fun q => q h)] at k; exact k)
  · exact lv_icmp_lt hx hb hdg ht (fun h => by rw [show ab_cn .lt x y = true from decide_eq_true h] at k; exact k) (fun h => by rw [show ab_cn .lt x y = false from decide_eq_false h] at k; exact k)
  · exact lv_icmp_ge hx hb hdg ht (fun h => by rw [show ab_cn .ge x y = true from decide_eq_true h] at k; exact k) (fun h => by rw [show ab_cn .ge x y = false from decide_eq_false h] at k; exact k)
  · exact lv_icmp_gt hx hb hdg ht (fun h => by rw [show ab_cn .gt x y = true from decide_eq_true h] at k; exact k) (fun h => by rw [show ab_cn .gt x y = false from decide_eq_false h] at k; exact k)
  · exact lv_icmp_le hx hb hdg ht (fun h => by rw [show ab_cn .le x y = true from decide_eq_true h] at k; exact k) (fun h => by rw [show ab_cn .le x y = false from decide_eq_false h] at k; exact k)
theorem ab_i2_ok (hx : p.tables.exec = Jvm.exec) (hb : c.code = cc) {ins : Instr} {len : Nat} {x y z : Int32} (hdg : decode cc pc = .ok (ins, len)) (hln : ab_ln ins = len ∨ ab_ln ins = 0) (h : ab_i2 ins x y = some z)
    (k : W p l e R s m args below meth c H locs cells slots Q (F0 m (pc + 1) ls (.int z :: rest))) : W p l e R s m args below meth c H locs cells slots Q (F0 m pc ls (.int y :: .int x :: rest)) := by
  unfold ab_i2 at h
  split at h
  · cases h; obtain rfl := ab_len (n := 0) rfl hln; exact lv_iadd hx hb hdg k
  · cases h; obtain rfl := ab_len (n := 0) rfl hln; exact lv_isub hx hb hdg k
  · cases h; obtain rfl := ab_len (n := 0) rfl hln; exact lv_imul hx hb hdg k
  · cases h; obtain rfl := ab_len (n := 0) rfl hln; exact lv_iand hx hb hdg k
  · cases h; obtain rfl := ab_len (n := 0) rfl hln; exact lv_ior hx hb hdg k
  · cases h; obtain rfl := ab_len (n := 0) rfl hln; exact lv_ixor hx hb hdg k
  · split at h
    · cases h
    · rename_i hne
      cases h; obtain rfl := ab_len (n := 0) rfl hln; exact lv_idiv hx hb hdg hne k
  · split at h
    · cases h
    · rename_i hne
      cases h; obtain rfl := ab_len (n := 0) rfl hln; exact lv_irem hx hb hdg hne k
  · cases h; obtain rfl := ab_len (n := 0) rfl hln; exact lv_ishl hx hb hdg k
  · cases h; obtain rfl := ab_len (n := 0) rfl hln; exact lv_ishr hx hb hdg k
  · cases h; obtain rfl := ab_len (n := 0) rfl hln; exact lv_iushr hx hb hdg rfl k
  · cases h
theorem ab_i1_ok (hx : p.tables.exec = Jvm.exec) (hb : c.code = cc) {ins : Instr} {len : Nat} {x : Int32} {z : Value} (hdg : decode cc pc = .ok (ins, len)) (hln : ab_ln ins = len ∨ ab_ln ins = 0) (h : ab_i1 ins x = some z) (ad : Nat → Nat)
    (k : W p l e R s m args below meth c H locs cells slots Q (F0 m (pc + 1) ls (ab_v ad z :: rest))) : W p l e R s m args below meth c H locs cells slots Q (F0 m pc ls (.int x :: rest)) := by
  unfold ab_i1 at h
  split at h
  · cases h; obtain rfl := ab_len (n := 0) rfl hln; exact lv_ineg hx hb hdg k
  · cases h; obtain rfl := ab_len (n := 0) rfl hln; exact lv_i2l hx hb hdg rfl k
  · cases h; obtain rfl := ab_len (n := 0) rfl hln; exact lv_i2b hx hb hdg rfl k
  · cases h; obtain rfl := ab_len (n := 0) rfl hln; exact lv_i2s hx hb hdg rfl k
  · cases h; obtain rfl := ab_len (n := 0) rfl hln; exact lv_i2c hx hb hdg rfl k
  · cases h
set_option maxHeartbeats 4000000 in
theorem ab_pu_ok (hx : p.tables.exec = Jvm.exec) (hb : c.code = cc) {ins : Instr} {len pc2 : Nat} {st st2 : List Value} (hdg : decode cc pc = .ok (ins, len)) (hln : ab_ln ins = len ∨ ab_ln ins = 0) (h : ab_pu ins pc st = some (pc2, st2)) (ad : Nat → Nat)
    (k : W p l e R s m args below meth c H locs cells slots Q (F0 m pc2 ls (st2.map (ab_v ad)))) : W p l e R s m args below meth c H locs cells slots Q (F0 m pc ls (st.map (ab_v ad))) := by
  unfold ab_pu at h
  split at h
  · cases h; obtain rfl := ab_len (n := 0) rfl hln; exact lv_iconst hx hb hdg rfl k
  · cases h; obtain rfl := ab_len (n := 1) rfl hln; exact lv_bipush hx hb hdg rfl k
  · cases h; obtain rfl := ab_len (n := 2) rfl hln; exact lv_sipush hx hb hdg rfl k
  · cases h; obtain rfl := ab_len (n := 0) rfl hln; exact lv_lconst hx hb hdg rfl k
  · split at h
    · split at h
      · rename_i hc
        cases h; obtain rfl := ab_len (n := 0) rfl hln; exact lv_dup hx hb hdg ((ab_v_cat ad _).trans hc) k
      · cases h
    · cases h
  · split at h
    · split at h
      · rename_i hc
        cases h; obtain rfl := ab_len (n := 0) rfl hln; exact lv_pop hx hb hdg ((ab_v_cat ad _).trans hc) k
      · cases h
    · cases h
  · split at h
    · split at h
      · rename_i hc
        cases h; obtain rfl := ab_len (n := 0) rfl hln; exact lv_dup2_11 hx hb hdg ((ab_v_cat ad _).trans hc.1) ((ab_v_cat ad _).trans hc.2) k
      · cases h
    · cases h
  · split at h
    · split at h
      · rename_i hc
        cases h; obtain rfl := ab_len (n := 0) rfl hln; exact lv_dup_x1 hx hb hdg ((ab_v_cat ad _).trans hc.1) ((ab_v_cat ad _).trans hc.2) k
      · cases h
    · cases h
  · split at h
    · rename_i ht
      cases h; obtain rfl := ab_len (n := 2) rfl hln; exact lv_goto hx hb hdg (ab_tg_ok ht) k
    · cases h
  · split at h
    · split at h
      · rename_i ht
        cases h; obtain rfl := ab_len (n := 2) rfl hln; exact ab_if_ok hx hb hdg (ab_tg_ok ht) k
      · cases h
    · cases h
  · split at h
    · split at h
      · rename_i ht
        cases h; obtain rfl := ab_len (n := 2) rfl hln; exact ab_ic_ok hx hb hdg (ab_tg_ok ht) k
      · cases h
    · cases h
  · split at h
    · cases h; obtain rfl := ab_len (n := 0) rfl hln; exact lv_l2i hx hb hdg rfl k
    · cases h
  · split at h
    · cases h; obtain rfl := ab_len (n := 0) rfl hln; exact lv_lshl hx hb hdg rfl k
    · cases h
  · split at h
    · cases h; obtain rfl := ab_len (n := 0) rfl hln; exact lv_lor hx hb hdg k
    · cases h
  · split at h
    · cases h; obtain rfl := ab_len (n := 0) rfl hln; exact lv_land hx hb hdg k
    · cases h
  · split at h
    · cases h; obtain rfl := ab_len (n := 0) rfl hln; exact W.lcmp hx hb hdg k
    · cases h
  · split at h
    · split at h
      · rename_i hr
        split at h
        · rename_i ht
          cases h; exact lv_tableOut hx hb hdg hr (ab_tg_ok ht) k
        · cases h
      · rename_i hr
        have hr := not_or.mp hr
        split at h
        · rename_i ho
          split at h
          · rename_i ht
            cases h; exact lv_tableIn hx hb hdg hr.1 hr.2 ho (ab_tg_ok ht) k
          · cases h
        · cases h
    · cases h
  · split at h
    · split at h
      · rename_i hp
        split at h
        · rename_i ht
          cases h; exact lv_lookup hx hb hdg hp rfl (ab_tg_ok ht) k
        · cases h
      · cases h
    · cases h
  · split at h
    · split at h
      · rename_i h1
        cases h
        exact ab_i1_ok hx hb hdg hln h1 ad k
      · split at h
        · split at h
          · rename_i h2
            cases h
            exact ab_i2_ok hx hb hdg hln h2 k
          · cases h
        · cases h
    · cases h
end ABS
end
section
/-! locals -/
def ab_h (ad : Nat → Nat) (ls : Array Slot) (nL : Nat) (L : ab_L) : Prop := L.length = nL ∧ ls.size = nL ∧ lv_wf ls ∧ ∀ (k : Nat) (v : Value), L[k]? = some (some v) → ls[k]? = some (.val (ab_v ad v))
def ab_ll (ad : Nat → Nat) : Nat → ab_L → List (Nat × Value)
  | _, [] => []
  | i, none :: r => ab_ll ad (i + 1) r
  | i, some v :: r => (i, ab_v ad v) :: ab_ll ad (i + 1) r
theorem ab_ll_mem (ad : Nat → Nat) : ∀ (L : ab_L) (i : Nat) (q : Nat × Value), q ∈ ab_ll ad i L ↔ ∃ (k : Nat) (v : Value), L[k]? = some (some v) ∧ q = (i + k, ab_v ad v)
  | [], i, q => ⟨fun h => by simp [ab_ll] at h, fun ⟨k, v, h, _⟩ => by simp at h⟩
  | none :: r, i, q => by
    rw [show ab_ll ad i (none :: r) = ab_ll ad (i + 1) r from rfl, ab_ll_mem ad r (i + 1) q]
    constructor
    · rintro ⟨k, v, h, rfl⟩
      exact ⟨k + 1, v, by simpa using h, by rw [show i + 1 + k = i + (k + 1) by omega]⟩
    · rintro ⟨k, v, h, rfl⟩
      cases k with
      | zero => simp at h
      | succ k => exact ⟨k, v, by simpa using h, by rw [show i + 1 + k = i + (k + 1) by omega]⟩
  | some w :: r, i, q => by
    rw [show ab_ll ad i (some w :: r) = (i, ab_v ad w) :: ab_ll ad (i + 1) r from rfl, List.mem_cons, ab_ll_mem ad r (i + 1) q]
    constructor
    · rintro (rfl | ⟨k, v, h, rfl⟩)
      · exact ⟨0, w, rfl, rfl⟩
      · exact ⟨k + 1, v, by simpa using h, by rw [show i + 1 + k = i + (k + 1) by omega]⟩
    · rintro ⟨k, v, h, rfl⟩
      cases k with
      | zero => 
        have h : some w = some v := by simpa using h
        cases h
        exact Or.inl rfl
      | succ k => exact Or.inr ⟨k, v, by simpa using h, by rw [show i + 1 + k = i + (k + 1) by omega]⟩
theorem ab_h_has {ad : Nat → Nat} {ls : Array Slot} {nL : Nat} {L : ab_L} (h : ab_h ad ls nL L) : lv_has ls nL (ab_ll ad 0 L) := by
  refine ⟨h.2.1, h.2.2.1, fun q hq => ?_⟩
  obtain ⟨k, v, hk, rfl⟩ := (ab_ll_mem ad L 0 q).mp hq
  show ls[0 + k]? = _
  rw [Nat.zero_add]
  exact h.2.2.2 k v hk
theorem ab_lg_some {L : ab_L} {i : Nat} {v : Value} (h : ab_lg L i = some v) : L[i]? = some (some v) := by
  unfold ab_lg at h
  split at h
  · rename_i o ho
    rw [ho, h]
  · cases h
theorem ab_h_at {ad : Nat → Nat} {ls : Array Slot} {nL : Nat} {L : ab_L} (h : ab_h ad ls nL L) {i : Nat} {v : Value} (hi : ab_lg L i = some v) : ls[i]? = some (.val (ab_v ad v)) := h.2.2.2 i v (ab_lg_some hi)
theorem ab_c2_no {L : ab_L} {k : Nat} {v : Value} (h : ab_c2 (ab_lg L k) = false) (hk : L[k]? = some (some v)) : ¬ v.category = 2 := by
  rw [show ab_lg L k = some v by unfold ab_lg; rw [hk]] at h
  cases v <;> simp_all [ab_c2, Value.category]
theorem ab_h_st1 {ad : Nat → Nat} {ls : Array Slot} {nL : Nat} {L L2 : ab_L} {i : Nat} {v : Value} (h : ab_h ad ls nL L) (hs : ab_l1 L i v = some L2) : i < nL ∧ ∀ ls' : Array Slot, lv_has ls' nL ((i, ab_v ad v) :: (ab_ll ad 0 L).filter (fun q => !(q.1 == i) && !(q.1 + 1 == i && q.2.category == 2))) → ab_h ad ls' nL L2 := by
  unfold ab_l1 at hs
  split at hs
  · rename_i hc
    cases hs
    refine ⟨h.1 ▸ hc.1, fun ls' hl => ⟨by rw [List.length_set]; exact h.1, hl.1, hl.2.1, fun k w hk => ?_⟩⟩
    by_cases hki : k = i
    · subst hki
      rw [List.getElem?_set_self hc.1] at hk
      cases hk
      exact hl.2.2 (k, ab_v ad v) List.mem_cons_self
    · rw [List.getElem?_set_ne (fun q => hki q.symm)] at hk
      refine hl.2.2 (k, ab_v ad w) (List.mem_cons_of_mem _ (List.mem_filter.mpr ⟨(ab_ll_mem ad L 0 _).mpr ⟨k, w, hk, by rw [Nat.zero_add]⟩, ?_⟩))
      simp only [Bool.and_eq_true, Bool.not_eq_true', beq_eq_false_iff_ne, ne_eq, Bool.and_eq_false_iff]
      refine ⟨hki, ?_⟩
      by_cases hk1 : k + 1 = i
      · refine Or.inr (fun q => ?_)
        rw [ab_v_cat] at q
        exact ab_c2_no (hc.2 (by omega)) (by rw [show i - 1 = k by omega]; exact hk) q
      · exact Or.inl hk1
  · cases hs
theorem ab_h_st2 {ad : Nat → Nat} {ls : Array Slot} {nL : Nat} {L L2 : ab_L} {i : Nat} {v : Value} (h : ab_h ad ls nL L) (hs : ab_l2 L i v = some L2) : i + 1 < nL ∧ ∀ ls' : Array Slot, lv_has ls' nL ((i, ab_v ad v) :: (ab_ll ad 0 L).filter (fun q => !(q.1 == i) && (!(q.1 == i + 1) && !(q.1 + 1 == i && q.2.category == 2)))) → ab_h ad ls' nL L2 := by
  unfold ab_l2 at hs
  split at hs
  · rename_i hc
    cases hs
    refine ⟨h.1 ▸ hc.1, fun ls' hl => ⟨by rw [List.length_set, List.length_set]; exact h.1, hl.1, hl.2.1, fun k w hk => ?_⟩⟩
    by_cases hk1 : k = i + 1
    · subst hk1
      rw [List.getElem?_set_self (by rw [List.length_set]; exact hc.1)] at hk
      cases hk
    · rw [List.getElem?_set_ne (fun q => hk1 q.symm)] at hk
      by_cases hki : k = i
      · subst hki
        rw [List.getElem?_set_self (by omega)] at hk
        cases hk
        exact hl.2.2 (k, ab_v ad v) List.mem_cons_self
      · rw [List.getElem?_set_ne (fun q => hki q.symm)] at hk
        refine hl.2.2 (k, ab_v ad w) (List.mem_cons_of_mem _ (List.mem_filter.mpr ⟨(ab_ll_mem ad L 0 _).mpr ⟨k, w, hk, by rw [Nat.zero_add]⟩, ?_⟩))
        simp only [Bool.and_eq_true, Bool.not_eq_true', beq_eq_false_iff_ne, ne_eq, Bool.and_eq_false_iff]
        refine ⟨hki, hk1, ?_⟩
        by_cases hk1 : k + 1 = i
        · refine Or.inr (fun q => ?_)
          rw [ab_v_cat] at q
          exact ab_c2_no (hc.2 (by omega)) (by rw [show i - 1 = k by omega]; exact hk) q
        · exact Or.inl hk1
  · cases hs
section ABS2
variable {p : Program} {l : Launch} {e : Env} {R : Room} {s : State} {m : MethodId} {args : Array Value} {below : List Frame} {meth : Method} {c : Code} {H : Heap} {locs : List Loc} {cells slots : Nat} {Q : State → Prop}
variable {cc : ByteArray} {pc : Nat} {ls : Array Slot} {rest : List Value}
theorem ab_ldi {L : ab_L} {i : Nat} {v : Value} (h : ab_ld 0 L i = some v) : ∃ x : Int32, v = .int x ∧ ab_lg L i = some (.int x) := by
  unfold ab_ld at h
  split at h
  · rename_i hx _ e
    cases h
    exact ⟨_, rfl, e⟩
  all_goals first | (cases h; done) | (rename_i q _ _; cases q; done) | (rename_i q _; cases q; done) | (rename_i q; cases q; done)
theorem ab_ldl {L : ab_L} {i : Nat} {v : Value} (h : ab_ld 1 L i = some v) : ∃ x : Int64, v = .long x ∧ ab_lg L i = some (.long x) := by
  unfold ab_ld at h
  split at h
  all_goals first | (cases h; done) | (cases h; exact ⟨_, rfl, by assumption⟩) | omega
theorem ab_lda {L : ab_L} {i : Nat} {v : Value} (h : ab_ld 2 L i = some v) : ∃ x : Nat, v = .ref x ∧ ab_lg L i = some (.ref x) := by
  unfold ab_ld at h
  split at h
  all_goals first | (cases h; done) | (cases h; exact ⟨_, rfl, by assumption⟩) | omega
theorem ab_soi {L L2 : ab_L} {i : Nat} {v : Value} (h : ab_so 0 L i v = some L2) : ∃ x : Int32, v = .int x ∧ ab_l1 L i (.int x) = some L2 := by
  unfold ab_so at h
  split at h
  all_goals first | (exact ⟨_, rfl, h⟩) | (cases h; done) | omega
theorem ab_sol {L L2 : ab_L} {i : Nat} {v : Value} (h : ab_so 1 L i v = some L2) : ∃ x : Int64, v = .long x ∧ ab_l2 L i (.long x) = some L2 := by
  unfold ab_so at h
  split at h
  all_goals first | (exact ⟨_, rfl, h⟩) | (cases h; done) | omega
theorem ab_soa {L L2 : ab_L} {i : Nat} {v : Value} (h : ab_so 2 L i v = some L2) : ∃ x : Nat, v = .ref x ∧ ab_l1 L i (.ref x) = some L2 := by
  unfold ab_so at h
  split at h
  all_goals first | (exact ⟨_, rfl, h⟩) | (cases h; done) | omega
set_option maxHeartbeats 4000000 in
theorem ab_lo_ok (hx : p.tables.exec = Jvm.exec) (hb : c.code = cc) {ins : Instr} {len nL : Nat} {L L2 : ab_L} {st st2 : List Value} (hdg : decode cc pc = .ok (ins, len)) (hln : ab_ln ins = len ∨ ab_ln ins = 0) (h : ab_lo ins L st = some (L2, st2)) (ad : Nat → Nat) (hL : ab_h ad ls nL L)
    (k : ∀ ls' : Array Slot, ab_h ad ls' nL L2 → W p l e R s m args below meth c H locs cells slots Q (F0 m (pc + len) ls' (st2.map (ab_v ad)))) : W p l e R s m args below meth c H locs cells slots Q (F0 m pc ls (st.map (ab_v ad))) := by
  unfold ab_lo at h
  split at h
  · rename_i t i hk
    split at h
    · rename_i v hv
      cases h
      unfold ab_lk at hk
      split at hk <;> cases hk
      · obtain ⟨x, rfl, hg⟩ := ab_ldi hv
        obtain rfl := ab_len (n := 1) rfl hln
        exact lv_iload hx hb hdg (ab_h_at hL hg) (k ls hL)
      · obtain ⟨x, rfl, hg⟩ := ab_ldi hv
        obtain rfl := ab_len (n := 0) rfl hln
        exact lv_iload_n hx hb hdg rfl (ab_h_at hL hg) (k ls hL)
      · obtain ⟨x, rfl, hg⟩ := ab_ldl hv
        obtain rfl := ab_len (n := 1) rfl hln
        exact lv_lload hx hb hdg (ab_h_at hL hg) (k ls hL)
      · obtain ⟨x, rfl, hg⟩ := ab_ldl hv
        obtain rfl := ab_len (n := 0) rfl hln
        exact lv_lload_n hx hb hdg rfl (ab_h_at hL hg) (k ls hL)
      · obtain ⟨x, rfl, hg⟩ := ab_lda hv
        obtain rfl := ab_len (n := 1) rfl hln
        exact lv_aload hx hb hdg (ab_h_at hL hg) (k ls hL)
      · obtain ⟨x, rfl, hg⟩ := ab_lda hv
        obtain rfl := ab_len (n := 0) rfl hln
        exact lv_aload_n hx hb hdg rfl (ab_h_at hL hg) (k ls hL)
    · cases h
  · rename_i t i hk
    split at h
    · rename_i v r
      split at h
      · rename_i L3 hs
        cases h
        unfold ab_lk at hk
        split at hk <;> cases hk
        · obtain ⟨x, rfl, hg⟩ := ab_soi hs
          obtain rfl := ab_len (n := 1) rfl hln
          obtain ⟨h1, h2⟩ := ab_h_st1 hL hg
          exact lv_istore hx hb hdg (ab_h_has hL) h1 rfl (fun ls' hl => k ls' (h2 ls' hl))
        · obtain ⟨x, rfl, hg⟩ := ab_soi hs
          obtain rfl := ab_len (n := 0) rfl hln
          obtain ⟨h1, h2⟩ := ab_h_st1 hL hg
          exact lv_istore_n hx hb hdg rfl (ab_h_has hL) h1 rfl (fun ls' hl => k ls' (h2 ls' hl))
        · obtain ⟨x, rfl, hg⟩ := ab_sol hs
          obtain rfl := ab_len (n := 1) rfl hln
          obtain ⟨h1, h2⟩ := ab_h_st2 hL hg
          exact lv_lstore hx hb hdg (ab_h_has hL) h1 rfl (fun ls' hl => k ls' (h2 ls' hl))
        · obtain ⟨x, rfl, hg⟩ := ab_sol hs
          obtain rfl := ab_len (n := 0) rfl hln
          obtain ⟨h1, h2⟩ := ab_h_st2 hL hg
          exact lv_lstore_n hx hb hdg rfl (ab_h_has hL) h1 rfl (fun ls' hl => k ls' (h2 ls' hl))
        · obtain ⟨x, rfl, hg⟩ := ab_soa hs
          obtain rfl := ab_len (n := 1) rfl hln
          obtain ⟨h1, h2⟩ := ab_h_st1 hL hg
          exact lv_astore hx hb hdg (ab_h_has hL) h1 rfl (fun ls' hl => k ls' (h2 ls' hl))
        · obtain ⟨x, rfl, hg⟩ := ab_soa hs
          obtain rfl := ab_len (n := 0) rfl hln
          obtain ⟨h1, h2⟩ := ab_h_st1 hL hg
          exact lv_astore_n hx hb hdg rfl (ab_h_has hL) h1 rfl (fun ls' hl => k ls' (h2 ls' hl))
      · cases h
    · cases h
  · split at h
    · rename_i i n _
      split at h
      · rename_i x hg
        split at h
        · rename_i L3 hs
          cases h
          obtain rfl := ab_len (n := 2) rfl hln
          obtain ⟨h1, h2⟩ := ab_h_st1 hL hs
          obtain ⟨j, hj⟩ := List.getElem?_of_mem ((ab_ll_mem ad L 0 (i, .int x)).mpr ⟨i, .int x, ab_lg_some hg, by rw [Nat.zero_add]; rfl⟩)
          exact lv_iinc hx hb hdg (ab_h_has hL) hj rfl h1 rfl (fun ls' hl => k ls' (h2 ls' hl))
        · cases h
      · cases h
    · cases h
end ABS2
end
section
/-! the world, its cells and their places -/
theorem ab_w_get (K : ab_Q) (ad : Nat → Nat) : ∀ (cs : List ab_C) (n q : Nat), (ab_w K ad n cs)[q]? = cs[q]?.map (fun c => (ad (n + q), ab_e K ad c))
  | [], n, q => by simp [ab_w]
  | c :: r, n, 0 => by simp [ab_w]
  | c :: r, n, q + 1 => by
    show (ab_w K ad (n + 1) r)[q]? = _
    rw [ab_w_get K ad r (n + 1) q, show n + 1 + q = n + (q + 1) by omega]
    rfl
theorem ab_w_at {K : ab_Q} {ad : Nat → Nat} {cs : List ab_C} {q : Nat} {c : ab_C} (h : cs[q]? = some c) : (ab_w K ad 0 cs)[q]? = some (ad q, ab_e K ad c) := by
  rw [ab_w_get, h, Nat.zero_add]
  rfl
theorem ab_w_set (K : ab_Q) (ad : Nat → Nat) (c : ab_C) : ∀ (cs : List ab_C) (n q : Nat), (ab_w K ad n cs).set q (ad (n + q), ab_e K ad c) = ab_w K ad n (cs.set q c)
  | [], n, q => by simp [ab_w]
  | d :: r, n, 0 => by simp [ab_w]
  | d :: r, n, q + 1 => by
    show (ad n, ab_e K ad d) :: (ab_w K ad (n + 1) r).set q _ = _
    rw [show n + (q + 1) = n + 1 + q by omega, ab_w_set K ad c r (n + 1) q]
    rfl
theorem ab_w_put (K : ab_Q) (ad : Nat → Nat) (c : ab_C) (cs : List ab_C) (q : Nat) : (ab_w K ad 0 cs).set q (ad q, ab_e K ad c) = ab_w K ad 0 (cs.set q c) := by
  have h := ab_w_set K ad c cs 0 q
  rwa [Nat.zero_add] at h
theorem ab_w_app (K : ab_Q) (ad : Nat → Nat) (ds : List ab_C) : ∀ (cs : List ab_C) (n : Nat), ab_w K ad n (cs ++ ds) = ab_w K ad n cs ++ ab_w K ad (n + cs.length) ds
  | [], n => rfl
  | c :: r, n => by
    show (ad n, ab_e K ad c) :: ab_w K ad (n + 1) (r ++ ds) = _
    rw [ab_w_app K ad ds r (n + 1), show n + 1 + r.length = n + (c :: r).length by simp; omega]
    rfl
theorem ab_v_ext {ad ad' : Nat → Nat} {N : Nat} (h : ∀ k, k < N ∨ 1000000 ≤ k → ad' k = ad k) {v : Value} (hv : ab_fv N v = true) : ab_v ad' v = ab_v ad v := by
  cases v <;> first | rfl | skip
  rename_i k
  show Value.ref (ad' k) = Value.ref (ad k)
  rw [h k (of_decide_eq_true hv)]
theorem ab_e_ext (K : ab_Q) {ad ad' : Nat → Nat} {N : Nat} (h : ∀ k, k < N ∨ 1000000 ≤ k → ad' k = ad k) {c : ab_C} (hc : ab_fc N c = true) : ab_e K ad' c = ab_e K ad c := by
  obtain l | l | l | o := c
  · rfl
  · rfl
  · have hf : (fun j => (l.getD j none).map ad') = (fun j => (l.getD j none).map ad) := by
      funext j
      cases hj : l.getD j none with
      | none => rfl
      | some k =>
        have hm : some k ∈ l := by
          rw [List.getD_eq_getElem?_getD] at hj
          cases hq : l[j]? with
          | none => rw [hq] at hj; cases hj
          | some z => 
            rw [hq] at hj
            have hj : z = some k := hj
            exact hj ▸ List.mem_of_getElem? hq
        have h2 := List.all_eq_true.mp hc (some k) hm
        show some (ad' k) = some (ad k)
        rw [h k (Or.inl (of_decide_eq_true h2))]
    show Sum.inl (K.2.2, l.length, Sum.inr (Sum.inr (Sum.inr (Sum.inr (fun j => (l.getD j none).map ad'))))) = _
    rw [hf]
    rfl
  · show Sum.inr (o.1, o.2.map (ab_v ad')) = Sum.inr (o.1, o.2.map (ab_v ad))
    congr 2
    exact List.map_congr_left (fun v hv => ab_v_ext h (List.all_eq_true.mp hc v hv))
theorem ab_w_ext (K : ab_Q) {ad ad' : Nat → Nat} {N : Nat} (h : ∀ k, k < N ∨ 1000000 ≤ k → ad' k = ad k) : ∀ (cs : List ab_C) (n : Nat), n + cs.length ≤ N → cs.all (ab_fc N) = true → ab_w K ad' n cs = ab_w K ad n cs
  | [], n, _, _ => rfl
  | c :: r, n, hn, hc => by
    have hc := List.all_cons.symm.trans hc
    rw [Bool.and_eq_true] at hc
    have hl : (c :: r).length = r.length + 1 := rfl
    show (ad' n, ab_e K ad' c) :: ab_w K ad' (n + 1) r = (ad n, ab_e K ad c) :: ab_w K ad (n + 1) r
    rw [h n (Or.inl (by omega)), ab_e_ext K h hc.1, ab_w_ext K h r (n + 1) (by omega) hc.2]
theorem ab_st_ext {ad ad' : Nat → Nat} {N : Nat} (h : ∀ k, k < N ∨ 1000000 ≤ k → ad' k = ad k) {st : List Value} (hs : st.all (ab_fv N) = true) : st.map (ab_v ad') = st.map (ab_v ad) :=
  List.map_congr_left (fun v hv => ab_v_ext h (List.all_eq_true.mp hs v hv))
theorem ab_h_ext {ad ad' : Nat → Nat} {N : Nat} (h : ∀ k, k < N ∨ 1000000 ≤ k → ad' k = ad k) {ls : Array Slot} {nL : Nat} {L : ab_L} (hL : ab_h ad ls nL L) (hs : L.all (ab_fo N) = true) : ab_h ad' ls nL L :=
  ⟨hL.1, hL.2.1, hL.2.2.1, fun k v hk => by rw [ab_v_ext h (List.all_eq_true.mp hs (some v) (List.mem_of_getElem? hk))]; exact hL.2.2.2 k v hk⟩
theorem ab_sz_set {cs : List ab_C} {q : Nat} {c d : ab_C} (h : cs[q]? = some c) (hs : ab_sc d = ab_sc c) : ab_sz (cs.set q d) = ab_sz cs := by
  induction cs generalizing q with
  | nil => rfl
  | cons a r ih => 
    cases q with
    | zero => 
      have h : a = c := by simpa using h
      subst h
      show ab_sc d + _ = ab_sc a + _
      rw [hs]
    | succ q => 
      show ab_sc a + ab_sz (r.set q d) = ab_sc a + ab_sz r
      rw [ih (by simpa using h)]
theorem ab_sz_app (cs : List ab_C) (c : ab_C) : ab_sz (cs ++ [c]) = ab_sz cs + ab_sc c := by
  unfold ab_sz
  rw [List.map_append, List.sum_append]
  simp
theorem ab_upI {l : List Int32} {i : Nat} {x : Int32} (h : i < l.length) : upd (fun j => l.getD j 0) i x = fun j => (l.set i x).getD j 0 := by
  funext j
  unfold upd
  by_cases hj : j = i
  · subst hj
    rw [if_pos rfl, List.getD_eq_getElem?_getD, List.getElem?_set_self h]
    rfl
  · rw [if_neg hj]
    show l.getD j 0 = (l.set i x).getD j 0
    rw [List.getD_eq_getElem?_getD, List.getD_eq_getElem?_getD, List.getElem?_set_ne (fun q => hj q.symm)]
theorem ab_upL {l : List Int64} {i : Nat} {x : Int64} (h : i < l.length) : vp_updL (fun j => l.getD j 0) i x = fun j => (l.set i x).getD j 0 := by
  funext j
  unfold vp_updL
  by_cases hj : j = i
  · subst hj
    rw [if_pos rfl, List.getD_eq_getElem?_getD, List.getElem?_set_self h]
    rfl
  · rw [if_neg hj]
    show l.getD j 0 = (l.set i x).getD j 0
    rw [List.getD_eq_getElem?_getD, List.getD_eq_getElem?_getD, List.getElem?_set_ne (fun q => hj q.symm)]
theorem ab_upQ (ad : Nat → Nat) {l : List (Option Nat)} {i : Nat} {x : Nat} (h : i < l.length) : va_up (fun j => (l.getD j none).map ad) i (some (ad x)) = fun j => ((l.set i (some x)).getD j none).map ad := by
  funext j
  unfold va_up
  by_cases hj : j = i
  · subst hj
    rw [if_pos rfl, List.getD_eq_getElem?_getD, List.getElem?_set_self h]
    rfl
  · rw [if_neg hj]
    show (l.getD j none).map ad = ((l.set i (some x)).getD j none).map ad
    rw [List.getD_eq_getElem?_getD, List.getD_eq_getElem?_getD, List.getElem?_set_ne (fun q => hj q.symm)]
theorem ab_cpl {α : Type} {f g : List α} {sp dp n : Nat} (h1 : sp + n ≤ f.length) (h2 : dp + n ≤ g.length) : (ab_cp f g sp dp n).length = g.length := by
  unfold ab_cp
  simp
  omega
theorem ab_cpd {α : Type} {f g : List α} {d : α} {sp dp n : Nat} (h1 : sp + n ≤ f.length) (h2 : dp + n ≤ g.length) : va_cpy (fun j => f.getD j d) (fun j => g.getD j d) sp dp n = fun j => (ab_cp f g sp dp n).getD j d := by
  funext j
  unfold va_cpy ab_cp
  simp only [List.getD_eq_getElem?_getD]
  by_cases h : dp ≤ j ∧ j < dp + n
  · rw [if_pos h, List.getElem?_append_right (by simp; omega), List.getElem?_append_left (by simp; omega), List.getElem?_take_of_lt (by simp; omega), List.getElem?_drop]
    congr 2
    simp
    omega
  · rw [if_neg h]
    by_cases h3 : j < dp
    · rw [List.getElem?_append_left (by simp; omega), List.getElem?_take_of_lt h3]
    · rw [List.getElem?_append_right (by simp; omega), List.getElem?_append_right (by simp; omega), List.getElem?_drop]
      congr 2
      simp
      omega
theorem ab_dfl (ad : Nat → Nat) (ty : Nat → FieldType) (N : Nat) : (ab_df ty N).map (ab_v ad) = ab_df ty N := by
  unfold ab_df
  rw [List.map_map]
  refine List.map_congr_left (fun j _ => ?_)
  show ab_v ad (defaultValue (ty j)) = defaultValue (ty j)
  cases ty j <;> rfl
theorem ab_dfv (ty : Nat → FieldType) (N : Nat) : ∀ j, j < N → defaultValue (ty j) = vp_V (ab_df ty N) j := by
  intro j hj
  unfold vp_V ab_df
  rw [List.getD_eq_getElem?_getD, List.getElem?_map, List.getElem?_range hj]
  rfl
theorem ab_ft_n {ty : FieldType} {v : Value} (h : ab_ft ty v = true) (ad : Nat → Nat) : narrow ty (ab_v ad v) = ab_v ad v ∧ fits ty (ab_v ad v) = true := by
  unfold ab_ft at h
  split at h
  · exact ⟨rfl, rfl⟩
  · exact ⟨rfl, rfl⟩
  · rename_i x
    have h : x = 0 ∨ x = 1 := by simpa using h
    rcases h with rfl | rfl
    · exact ⟨show narrow .boolean (.int 0) = .int 0 by decide, show fits .boolean (.int 0) = true by decide⟩
    · exact ⟨show narrow .boolean (.int 1) = .int 1 by decide, show fits .boolean (.int 1) = true by decide⟩
  · exact ⟨rfl, rfl⟩
  · exact ⟨rfl, rfl⟩
  · exact ⟨rfl, rfl⟩
  · exact ⟨rfl, rfl⟩
  · cases h
/-! the words that a step rests on -/
def ab_wd (Sl : List (String × String)) (M : List ab_D) (G : Nat → Option ab_T) (own : String) (ins : Instr) (k : ab_K) : List Jvm.Cond := match ins with
  | .getfield i => (match G k.2.1 with
    | some (_, T, _, _) => [.fieldLink own i (T k.2.2).1 (T k.2.2).2.1 (T k.2.2).2.2.1]
    | none => [])
  | .putfield i => (match G k.2.1 with
    | some (_, T, _, _) => [.fieldLink own i (T k.2.2).1 (T k.2.2).2.1 (T k.2.2).2.2.1]
    | none => [])
  | .new i => (match G k.2.1 with
    | some (C, _, N, _) => [.classLink own i C, .instantiable C N, .initialized C]
    | none => [])
  | .anewarray i => (match G k.2.1 with
    | some (C, _, _, _) => [.classLink own i C]
    | none => [])
  | .newarray ty => [.arrayClass (newarray.typeOf ty)]
  | .ldc i => if k.1 = 10 then [.constant own i (Int32.ofNat k.2.1)] else []
  | .ldc_w i => if k.1 = 10 then [.constant own i (Int32.ofNat k.2.1)] else []
  | .ldc2_w i => if k.1 = 11 then [.constantLong own i (Int64.ofNat k.2.1)] else []
  | .getstatic i => if k.1 = 13 then (match Sl[k.2.1]? with
    | some q => [.fieldLink own i q.1 q.2 "[I"]
    | none => []) else []
  | .invokestatic i => if k.1 = 7 then [.methodLink own i Lib.Math.max.name, .static Lib.Math.max.name, .initialized "java/lang/Math", .code Lib.Math.max.name Lib.Math.max.code 2 (some .int)]
    else if k.1 = 8 then [.methodLink own i Lib.Math.min.name, .static Lib.Math.min.name, .initialized "java/lang/Math", .code Lib.Math.min.name Lib.Math.min.code 2 (some .int)]
    else if k.1 = 9 then [.methodLink own i arraycopyName, .native arraycopyName, .static arraycopyName, .initialized "java/lang/System"]
    else (match M[k.2.1]? with
      | some md => [.methodLink own i md.1, .static md.1, .initialized md.1.cls]
      | none => [])
  | .invokevirtual i => (match M[k.2.1]? with
    | some md => [.methodLink own i md.1, .instanceMethod md.1, .selects md.1.cls md.1 md.1, .initialized md.1.cls]
    | none => [])
  | .invokespecial i => if k.1 = 6 then [.methodLink own i objectInit, .instanceMethod objectInit, .code objectInit ⟨#[0xb1]⟩ 1 none]
    else if k.1 = 15 then (match M[k.2.1]? with
      | some md => [.instanceMethod md.1, .initialized md.1.cls]
      | none => [])
    else (match M[k.2.1]? with
      | some md => [.methodLink own i md.1, .instanceMethod md.1, .initialized md.1.cls]
      | none => [])
  | _ => []
/-- the links of nest mates that a step rests on -/
abbrev ab_N : Type := List (String × Nat × MethodName × String)
/-- the class of ab_Z, the links of nest mates, the arrays that stay, the static fields that hold them -/
abbrev ab_X : Type := String × ab_N × List (List Int32) × List (String × String)
def ab_nd (Nl : ab_N) (Sl : List (String × String)) (M : List ab_D) (own : String) (ins : Instr) (k : ab_K) : Prop := (∀ i my, ins = .invokespecial i → k.1 = 15 → M[k.2.1]? = some my → ∃ host : String, (own, i, my.1, host) ∈ Nl) ∧ ∀ i, ins = .getstatic i → k.1 = 13 → ¬ Sl[k.2.1]? = none
end
section
/-! steps over the world -/
def ab_cg (cl : List vw_C) (Ts : List Jvm.Cond) (G : Nat → Option ab_T) : Prop := ∀ (ci : Nat) (C : String) (T : u_T) (N : Nat) (ty : Nat → FieldType), G ci = some (C, T, N, ty) → cl[ci]? = some (C, T, N) ∧ (∀ w ∈ u_ws C T N, w ∈ Ts) ∧ (∀ k, k < N → parseFieldDescriptor (T k).2.2.1 = some (ty k)) ∧ (∀ a, a < N → ∀ b, b < N → a ≠ b → (T a).2.1 ≠ (T b).2.1) ∧ (∀ k, k < N → (T k).1 = C)
def ab_ty (K : ab_Q) (Cq : String) : List (ClassId × FieldType) := [(K.1, .int), (K.2.1, .long), (K.2.2, .object Cq)]
theorem ab_off (a : Nat) (h : ¬ a < 1000000) : 1000000 + (a - 1000000) = a := by omega
/-- arrays that stay as they are, and the static fields that hold them -/
def ab_TT (Tb : List (List Int32)) (Sl : List (String × String)) (ad : Nat → Nat) (A : Nat → Prop) (U : State) (H : Heap) : Prop :=
  (∀ (j : Nat) (t : List Int32), Tb[j]? = some t → va_T .int (ad (1000000 + j)) t.length (fun i => .int (t.getD i 0)) A U H) ∧ ∀ (j : Nat) (q : String × String), Sl[j]? = some q → va_Z q.1 q.2 "[I" (.ref (ad (1000000 + j))) A U H
theorem ab_TT.ad {Tb : List (List Int32)} {Sl : List (String × String)} {ad ad' : Nat → Nat} {A : Nat → Prop} {U : State} {H : Heap} (h : ab_TT Tb Sl ad A U H) (e : ∀ k, 1000000 ≤ k → ad' k = ad k) : ab_TT Tb Sl ad' A U H :=
  ⟨fun j t q => by rw [e _ (by omega)]; exact h.1 j t q, fun j q r => by rw [e _ (by omega)]; exact h.2 j q r⟩
theorem ab_TT.go {Tb : List (List Int32)} {Sl : List (String × String)} {ad : Nat → Nat} {A B : Nat → Prop} {u U : State} {H H1 : Heap} (h : ab_TT Tb Sl ad A u H) (hq : ∀ a : Nat, a < H.size → ¬ A a → H1[a]? = H[a]?) (hvm : u.vm.Alike U.vm) (hAB : ∀ q, B q → A q) : ab_TT Tb Sl ad B U H1 :=
  ⟨fun j t q => (((h.1 j t q).kept hq).moved hvm).narrow hAB, fun j q r => (((h.2 j q r).kept hq).moved hvm).narrow hAB⟩
section ABS4
variable {p : Program} {l : Launch} {e : Env} {R : Room} {s : State} {m : MethodId} {args : Array Value} {below : List Frame} {meth : Method} {c : Code} {H : Heap} {locs : List Loc} {cells slots : Nat} {Q : State → Prop}
variable {cc : ByteArray} {pc : Nat} {ls : Array Slot} {D : va_G} {cl : List vw_C} {A : Nat → Prop} {H0 : Heap} {K : ab_Q} {Cq own : String} {ad : Nat → Nat} {cs cs2 : List ab_C} {st st2 : List Value} {Ts : List Jvm.Cond} {G : Nat → Option ab_T} {M : List ab_D} {len : Nat} {Tb : List (List Int32)} {Sl : List (String × String)}
theorem ab_gf_ok (hx : p.tables.exec = Jvm.exec) (hb : c.code = cc) (hown : s.vm.findClass own = some m.cls) (hts : ∀ w ∈ Ts, w.before args s = true) (hG : ab_cg cl Ts G) (hK : va_K D cl (ab_ty K Cq) s)
    {i : Nat} {k : ab_K} (hdg : decode cc pc = .ok (.getfield i, 3)) (hW : ∀ w ∈ ab_wd Sl M G own (.getfield i) k, w.before args s = true) (h : ab_gf G k.2.1 k.2.2 st cs = some (st2, cs2)) (hP : va_P D cl (ab_w K ad 0 cs) H)
    (kk : cs2 = cs → W p l e R s m args below meth c H locs cells slots Q (F0 m (pc + 3) ls (st2.map (ab_v ad)))) : W p l e R s m args below meth c H locs cells slots Q (F0 m pc ls (st.map (ab_v ad))) := by
  unfold ab_gf at h
  split at h
  · rename_i a r
    split at h
    · rename_i ci fs C T N ty he hg
      split at h
      · rename_i hc
        obtain ⟨hci, hkN⟩ := hc
        subst hci
        obtain ⟨h1, h2, h3, h4, h5⟩ := hG _ _ _ _ _ hg
        split at h
        · rename_i v hv
          cases h
          have hlink := hW (.fieldLink own i (T k.2.2).1 (T k.2.2).2.1 (T k.2.2).2.2.1) (by unfold ab_wd; rw [hg]; exact List.mem_cons_self)
          exact va_get hx hb hts h2 hown hK hP a (ab_w_at he) h1 k.2.2 hkN hlink (fun _ q => q) (v := ab_v ad v) (by rw [List.getElem?_map, hv]; rfl) hdg (kk rfl)
        · cases h
      · cases h
    · cases h
  · cases h
theorem ab_pf_ok (hx : p.tables.exec = Jvm.exec) (hb : c.code = cc) (hown : s.vm.findClass own = some m.cls) (hts : ∀ w ∈ Ts, w.before args s = true) (hG : ab_cg cl Ts G) {o : Nat} {isI : Bool} (howG : ∀ C T N ty, G o = some (C, T, N, ty) → C = own) (hI : isI = true → meth.name = "<init>") (hK : va_K D cl (ab_ty K Cq) s)
    {i : Nat} {k : ab_K} (hdg : decode cc pc = .ok (.putfield i, 3)) (hW : ∀ w ∈ ab_wd Sl M G own (.putfield i) k, w.before args s = true) (h : ab_pf G o isI k.2.1 k.2.2 st cs = some (st2, cs2)) (hP : va_P D cl (ab_w K ad 0 cs) H) (hD : va_D A (ab_w K ad 0 cs)) (hS : va_S A H0 H locs)
    (kk : ∀ (H1 : Heap) (locs1 : List Loc), va_P D cl (ab_w K ad 0 cs2) H1 → va_D A (ab_w K ad 0 cs2) → va_S A H0 H1 locs1 → W p l e R s m args below meth c H1 locs1 cells slots Q (F0 m (pc + 3) ls (st2.map (ab_v ad)))) : W p l e R s m args below meth c H locs cells slots Q (F0 m pc ls (st.map (ab_v ad))) := by
  unfold ab_pf at h
  split at h
  · rename_i v a r
    split at h
    · rename_i ci fs C T N ty he hg
      split at h
      · rename_i hc
        obtain ⟨hci, hfN, hfl, hft, hfin⟩ := hc
        subst hci
        cases h
        obtain ⟨h1, h2, h3, h4, h5⟩ := hG _ _ _ _ _ hg
        have hlink := hW (.fieldLink own i (T k.2.2).1 (T k.2.2).2.1 (T k.2.2).2.2.1) (by unfold ab_wd; rw [hg]; exact List.mem_cons_self)
        obtain ⟨n1, n2⟩ := ab_ft_n hft ad
        have hset : (ab_w K ad 0 cs).set a (ad a, .inr (k.2.1, (fs.map (ab_v ad)).set k.2.2 (ab_v ad v))) = ab_w K ad 0 (cs.set a (.inr (.inr (.inr (k.2.1, fs.set k.2.2 v))))) := by
          rw [← ab_w_put]
          show _ = (ab_w K ad 0 cs).set a (ad a, .inr (k.2.1, (fs.set k.2.2 v).map (ab_v ad)))
          rw [List.map_set]
        cases hf : (T k.2.2).2.2.2 with
        | false =>
          exact va_put hx hb hts h2 ty h3 h4 hown hK hP hD hS a (ab_w_at he) h1 k.2.2 hfN hlink (fun _ q => q) hf (h3 _ hfN) n1 n2 (by rw [List.length_map]; exact hfl) hdg (fun H1 locs1 p1 d1 s1 => by rw [hset] at p1 d1; exact kk H1 locs1 p1 d1 s1)
        | true =>
          obtain ⟨g1, g2⟩ := hfin hf
          have hdecl : (T k.2.2).1 = own := (h5 _ hfN).trans (howG C T N ty (g2 ▸ hg))
          exact va_putF hx hb hts h2 ty h3 h4 hown hK hP hD hS a (ab_w_at he) h1 k.2.2 hfN hlink (fun _ q => q) hf (hI g1) hdecl (h3 _ hfN) n1 n2 (by rw [List.length_map]; exact hfl) hdg (fun H1 locs1 p1 d1 s1 => by rw [hset] at p1 d1; exact kk H1 locs1 p1 d1 s1)
      · cases h
    · cases h
  · cases h
theorem ab_ia_ok (hx : p.tables.exec = Jvm.exec) (hb : c.code = cc) (hK : va_K D cl (ab_ty K Cq) s) (hTT : ab_TT Tb Sl ad A s s.heap) (hS : va_S A s.heap H locs) (hdg : decode cc pc = .ok (.iaload, 1)) (h : ab_ia Tb st cs = some (st2, cs2)) (hP : va_P D cl (ab_w K ad 0 cs) H)
    (kk : cs2 = cs → W p l e R s m args below meth c H locs cells slots Q (F0 m (pc + 1) ls (st2.map (ab_v ad)))) : W p l e R s m args below meth c H locs cells slots Q (F0 m pc ls (st.map (ab_v ad))) := by
  unfold ab_ia at h
  split at h
  · rename_i i a r
    split at h
    · rename_i q he
      split at h
      · cases h
      · rename_i hin
        cases h
        exact va_iald hx hb hK hP a 0 (ab_w_at he) rfl hin hdg (kk rfl)
    · split at h
      · rename_i t ht
        split at h
        · cases h
        · rename_i hin
          obtain ⟨ha, hin⟩ := not_or.mp hin
          cases h
          have h1 := hTT.1 _ _ ht
          rw [ab_off a ha] at h1
          exact va_ti hx hb h1 hS hin rfl hdg (kk rfl)
      · cases h
    · cases h
  · cases h
theorem ab_la_ok (hx : p.tables.exec = Jvm.exec) (hb : c.code = cc) (hK : va_K D cl (ab_ty K Cq) s) (hdg : decode cc pc = .ok (.laload, 1)) (h : ab_la st cs = some (st2, cs2)) (hP : va_P D cl (ab_w K ad 0 cs) H)
    (kk : cs2 = cs → W p l e R s m args below meth c H locs cells slots Q (F0 m (pc + 1) ls (st2.map (ab_v ad)))) : W p l e R s m args below meth c H locs cells slots Q (F0 m pc ls (st.map (ab_v ad))) := by
  unfold ab_la at h
  split at h
  · rename_i i a r
    split at h
    · rename_i q he
      split at h
      · cases h
      · rename_i hin
        cases h
        exact va_lald hx hb hK hP a 1 (ab_w_at he) rfl hin hdg (kk rfl)
    · cases h
  · cases h
theorem ab_vr_v (ad : Nat → Nat) (o : Option Nat) : ab_v ad (ab_vr o) = va_rf (o.map ad) := by cases o <;> rfl
theorem ab_aa_ok (hx : p.tables.exec = Jvm.exec) (hb : c.code = cc) (hK : va_K D cl (ab_ty K Cq) s) (hdg : decode cc pc = .ok (.aaload, 1)) (h : ab_aa st cs = some (st2, cs2)) (hP : va_P D cl (ab_w K ad 0 cs) H)
    (kk : cs2 = cs → W p l e R s m args below meth c H locs cells slots Q (F0 m (pc + 1) ls (st2.map (ab_v ad)))) : W p l e R s m args below meth c H locs cells slots Q (F0 m pc ls (st.map (ab_v ad))) := by
  unfold ab_aa at h
  split at h
  · rename_i i a r
    split at h
    · rename_i q he
      split at h
      · cases h
      · rename_i hin
        cases h
        have k1 := kk rfl
        rw [List.map_cons, ab_vr_v] at k1
        exact va_aldq hx hb hK hP a 2 (ab_w_at he) rfl hin hdg k1
    · cases h
  · cases h
theorem ab_is_ok (hx : p.tables.exec = Jvm.exec) (hb : c.code = cc) (hK : va_K D cl (ab_ty K Cq) s) (hdg : decode cc pc = .ok (.iastore, 1)) (h : ab_is st cs = some (st2, cs2)) (hP : va_P D cl (ab_w K ad 0 cs) H) (hD : va_D A (ab_w K ad 0 cs)) (hS : va_S A H0 H locs)
    (kk : ∀ (H1 : Heap) (locs1 : List Loc), va_P D cl (ab_w K ad 0 cs2) H1 → va_D A (ab_w K ad 0 cs2) → va_S A H0 H1 locs1 → W p l e R s m args below meth c H1 locs1 cells slots Q (F0 m (pc + 1) ls (st2.map (ab_v ad)))) : W p l e R s m args below meth c H locs cells slots Q (F0 m pc ls (st.map (ab_v ad))) := by
  unfold ab_is at h
  split at h
  · rename_i x i a r
    split at h
    · rename_i q he
      split at h
      · cases h
      · rename_i hin
        cases h
        have hlt : i.toNatClampNeg < q.length := Nat.not_le.mp (not_or.mp hin).2
        have hset : (ab_w K ad 0 cs).set a (ad a, .inl (K.1, q.length, .inl (upd (fun j => q.getD j 0) i.toNatClampNeg x))) = ab_w K ad 0 (cs.set a (.inl (q.set i.toNatClampNeg x))) := by
          rw [← ab_w_put, ab_upI hlt]
          show _ = List.set (ab_w K ad 0 cs) a (ad a, Sum.inl (K.1, (q.set i.toNatClampNeg x).length, _))
          rw [List.length_set]
        exact va_iast hx hb hK hP hD hS a 0 (ab_w_at he) rfl hin hdg (fun H1 locs1 p1 d1 s1 => by rw [hset] at p1 d1; exact kk H1 locs1 p1 d1 s1)
    · cases h
  · cases h
theorem ab_lst_ok (hx : p.tables.exec = Jvm.exec) (hb : c.code = cc) (hK : va_K D cl (ab_ty K Cq) s) (hdg : decode cc pc = .ok (.lastore, 1)) (h : ab_lst st cs = some (st2, cs2)) (hP : va_P D cl (ab_w K ad 0 cs) H) (hD : va_D A (ab_w K ad 0 cs)) (hS : va_S A H0 H locs)
    (kk : ∀ (H1 : Heap) (locs1 : List Loc), va_P D cl (ab_w K ad 0 cs2) H1 → va_D A (ab_w K ad 0 cs2) → va_S A H0 H1 locs1 → W p l e R s m args below meth c H1 locs1 cells slots Q (F0 m (pc + 1) ls (st2.map (ab_v ad)))) : W p l e R s m args below meth c H locs cells slots Q (F0 m pc ls (st.map (ab_v ad))) := by
  unfold ab_lst at h
  split at h
  · rename_i x i a r
    split at h
    · rename_i q he
      split at h
      · cases h
      · rename_i hin
        cases h
        have hlt : i.toNatClampNeg < q.length := Nat.not_le.mp (not_or.mp hin).2
        have hset : (ab_w K ad 0 cs).set a (ad a, .inl (K.2.1, q.length, .inr (.inl (vp_updL (fun j => q.getD j 0) i.toNatClampNeg x)))) = ab_w K ad 0 (cs.set a (.inr (.inl (q.set i.toNatClampNeg x)))) := by
          rw [← ab_w_put, ab_upL hlt]
          show _ = List.set (ab_w K ad 0 cs) a (ad a, Sum.inl (K.2.1, (q.set i.toNatClampNeg x).length, _))
          rw [List.length_set]
        exact va_last hx hb hK hP hD hS a 1 (ab_w_at he) rfl hin hdg (fun H1 locs1 p1 d1 s1 => by rw [hset] at p1 d1; exact kk H1 locs1 p1 d1 s1)
    · cases h
  · cases h
theorem ab_as_ok (hx : p.tables.exec = Jvm.exec) (hb : c.code = cc) (hG : ab_cg cl Ts G) {cq : Nat} (hcq : ∃ T N ty, G cq = some (Cq, T, N, ty)) (hK : va_K D cl (ab_ty K Cq) s) (hdg : decode cc pc = .ok (.aastore, 1)) (h : ab_as cq st cs = some (st2, cs2)) (hP : va_P D cl (ab_w K ad 0 cs) H) (hD : va_D A (ab_w K ad 0 cs)) (hS : va_S A H0 H locs)
    (kk : ∀ (H1 : Heap) (locs1 : List Loc), va_P D cl (ab_w K ad 0 cs2) H1 → va_D A (ab_w K ad 0 cs2) → va_S A H0 H1 locs1 → W p l e R s m args below meth c H1 locs1 cells slots Q (F0 m (pc + 1) ls (st2.map (ab_v ad)))) : W p l e R s m args below meth c H locs cells slots Q (F0 m pc ls (st.map (ab_v ad))) := by
  obtain ⟨T, N, ty, hg⟩ := hcq
  obtain ⟨h1, -⟩ := hG _ _ _ _ _ hg
  unfold ab_as at h
  split at h
  · rename_i x i a r
    split at h
    · rename_i q ci fs he he2
      split at h
      · rename_i hci
        subst hci
        split at h
        · cases h
        · rename_i hin
          cases h
          have hlt : i.toNatClampNeg < q.length := Nat.not_le.mp (not_or.mp hin).2
          have hset : (ab_w K ad 0 cs).set a (ad a, .inl (K.2.2, q.length, .inr (.inr (.inr (.inr (va_up (fun j => (q.getD j none).map ad) i.toNatClampNeg (some (ad x)))))))) = ab_w K ad 0 (cs.set a (.inr (.inr (.inl (q.set i.toNatClampNeg (some x)))))) := by
            rw [← ab_w_put, ab_upQ ad hlt]
            show _ = (ab_w K ad 0 cs).set a (ad a, .inl (K.2.2, (q.set i.toNatClampNeg (some x)).length, _))
            rw [List.length_set]
          exact va_astq hx hb hK hP hD hS a 2 x ci (ab_w_at he) rfl (ab_w_at he2) h1 hin hdg (fun H1 locs1 p1 d1 s1 => by rw [hset] at p1 d1; exact kk H1 locs1 p1 d1 s1)
      · cases h
    · cases h
  · cases h
theorem ab_al_ok (hx : p.tables.exec = Jvm.exec) (hb : c.code = cc) (hK : va_K D cl (ab_ty K Cq) s) (hTT : ab_TT Tb Sl ad A s s.heap) (hS : va_S A s.heap H locs) (hdg : decode cc pc = .ok (.arraylength, 1)) (h : ab_al Tb st cs = some (st2, cs2)) (hP : va_P D cl (ab_w K ad 0 cs) H)
    (kk : cs2 = cs → W p l e R s m args below meth c H locs cells slots Q (F0 m (pc + 1) ls (st2.map (ab_v ad)))) : W p l e R s m args below meth c H locs cells slots Q (F0 m pc ls (st.map (ab_v ad))) := by
  unfold ab_al at h
  split at h
  · rename_i a r
    split at h
    · rename_i q he
      cases h
      exact va_alen hx hb hK hP a 0 (ab_w_at he) rfl rfl hdg (kk rfl)
    · rename_i q he
      cases h
      exact va_alen hx hb hK hP a 1 (ab_w_at he) rfl rfl hdg (kk rfl)
    · rename_i q he
      cases h
      exact va_alen hx hb hK hP a 2 (ab_w_at he) rfl rfl hdg (kk rfl)
    · split at h
      · rename_i t ht
        split at h
        · cases h
        · rename_i ha
          cases h
          have h1 := hTT.1 _ _ ht
          rw [ab_off a ha] at h1
          exact va_tlen hx hb h1 hS rfl hdg (kk rfl)
      · cases h
    · cases h
  · cases h
theorem ab_cy_ok (hx : p.tables.exec = Jvm.exec) (hb : c.code = cc) (hml : c.maxLocals = ls.size) (hown : s.vm.findClass own = some m.cls) (hR : 1 ≤ R.frames ∧ 100 ≤ R.locals) (hK : va_K D cl (ab_ty K Cq) s) {i : Nat} (hdg : decode cc pc = .ok (.invokestatic i, 3))
    (w1 : (Jvm.Cond.methodLink own i arraycopyName).before args s = true) (w2 : (Jvm.Cond.native arraycopyName).before args s = true) (w3 : (Jvm.Cond.static arraycopyName).before args s = true) (w4 : (Jvm.Cond.initialized "java/lang/System").before args s = true)
    (h : ab_cy st cs = some (st2, cs2)) (hP : va_P D cl (ab_w K ad 0 cs) H) (hD : va_D A (ab_w K ad 0 cs)) (hS : va_S A H0 H locs)
    (kk : ∀ (H1 : Heap) (locs1 : List Loc), va_P D cl (ab_w K ad 0 cs2) H1 → va_D A (ab_w K ad 0 cs2) → va_S A H0 H1 locs1 → W p l e R s m args below meth c H1 locs1 cells slots Q (F0 m (pc + 3) ls (st2.map (ab_v ad)))) : W p l e R s m args below meth c H locs cells slots Q (F0 m pc ls (st.map (ab_v ad))) := by
  unfold ab_cy at h
  split at h
  · rename_i n dp a sp a0 r
    split at h
    · cases h
    · rename_i hn
      obtain ⟨n1, hn⟩ := not_or.mp hn
      obtain ⟨n2, hn⟩ := not_or.mp hn
      obtain ⟨n3, n4⟩ := not_or.mp hn
      have hlo : ((r.map (ab_v ad)).map fun v => v.category).sum + (nativeFrameWords "java/lang/System" "arraycopy" 5 + 11) ≤ R.locals := by
        rw [ab_sm_map]
        have : nativeFrameWords "java/lang/System" "arraycopy" 5 ≤ 7 := by decide
        omega
      split at h
      · rename_i f g he0 he
        split at h
        · rename_i hq
          cases h
          have hset : (ab_w K ad 0 cs).set a (ad a, .inl (K.1, g.length, .inl (va_cpy (fun j => f.getD j 0) (fun j => g.getD j 0) sp.toNatClampNeg dp.toNatClampNeg n.toNatClampNeg))) = ab_w K ad 0 (cs.set a (.inl (ab_cp f g sp.toNatClampNeg dp.toNatClampNeg n.toNatClampNeg))) := by
            rw [← ab_w_put, ab_cpd hq.1 hq.2]
            show _ = List.set (ab_w K ad 0 cs) a (ad a, Sum.inl (K.1, (ab_cp f g sp.toNatClampNeg dp.toNatClampNeg n.toNatClampNeg).length, _))
            rw [ab_cpl hq.1 hq.2]
          exact va_copyi hx hb hml hown w1 w2 w3 w4 hK hP hD hS a0 a 0 0 (ab_w_at he0) (ab_w_at he) rfl rfl rfl n3 n2 n1 hq.1 hq.2 (fun _ _ => rfl) hR.1 hlo hdg (fun H1 locs1 p1 d1 s1 => by rw [hset] at p1 d1; exact kk H1 locs1 p1 d1 s1)
        · cases h
      · rename_i f g he0 he
        split at h
        · rename_i hq
          cases h
          have hset : (ab_w K ad 0 cs).set a (ad a, .inl (K.2.1, g.length, .inr (.inl (va_cpy (fun j => f.getD j 0) (fun j => g.getD j 0) sp.toNatClampNeg dp.toNatClampNeg n.toNatClampNeg)))) = ab_w K ad 0 (cs.set a (.inr (.inl (ab_cp f g sp.toNatClampNeg dp.toNatClampNeg n.toNatClampNeg)))) := by
            rw [← ab_w_put, ab_cpd hq.1 hq.2]
            show _ = List.set (ab_w K ad 0 cs) a (ad a, Sum.inl (K.2.1, (ab_cp f g sp.toNatClampNeg dp.toNatClampNeg n.toNatClampNeg).length, _))
            rw [ab_cpl hq.1 hq.2]
          exact va_copyl hx hb hml hown w1 w2 w3 w4 hK hP hD hS a0 a 1 1 (ab_w_at he0) (ab_w_at he) rfl rfl rfl n3 n2 n1 hq.1 hq.2 (fun _ _ => rfl) hR.1 hlo hdg (fun H1 locs1 p1 d1 s1 => by rw [hset] at p1 d1; exact kk H1 locs1 p1 d1 s1)
        · cases h
      · cases h
  · cases h
theorem ab_oi_ok (hx : p.tables.exec = Jvm.exec) (hb : c.code = cc) (hml : c.maxLocals = ls.size) (hown : s.vm.findClass own = some m.cls) (hR : 1 ≤ R.frames ∧ 100 ≤ R.locals) {i : Nat} (hdg : decode cc pc = .ok (.invokespecial i, 3))
    (w1 : (Jvm.Cond.methodLink own i objectInit).before args s = true) (w2 : (Jvm.Cond.instanceMethod objectInit).before args s = true) (w3 : (Jvm.Cond.code objectInit ⟨#[0xb1]⟩ 1 none).before args s = true)
    (h : ab_oi st cs = some (st2, cs2)) (kk : cs2 = cs → W p l e R s m args below meth c H locs cells slots Q (F0 m (pc + 3) ls (st2.map (ab_v ad)))) : W p l e R s m args below meth c H locs cells slots Q (F0 m pc ls (st.map (ab_v ad))) := by
  unfold ab_oi at h
  split at h
  · rename_i a r
    split at h
    · rename_i hs
      cases h
      exact W.objInit hx hb hown w1 w2 w3 (g := F0 m pc ls ((Value.ref a :: st2).map (ab_v ad))) rfl hml.symm rfl hdg hR.1 (by rw [ab_sm_map]; show 2 * 0 + _ + 12 ≤ _; omega) (kk rfl)
    · cases h
  · cases h
theorem ab_mx_ok (hx : p.tables.exec = Jvm.exec) (hb : c.code = cc) (hml : c.maxLocals = ls.size) (hown : s.vm.findClass own = some m.cls) (hR : 1 ≤ R.frames ∧ 100 ≤ R.locals) (hce : cells ≤ R.cells) (hsl : slots ≤ R.slots) {i : Nat} (hdg : decode cc pc = .ok (.invokestatic i, 3))
    (w1 : (Jvm.Cond.methodLink own i Lib.Math.max.name).before args s = true) (w2 : (Jvm.Cond.static Lib.Math.max.name).before args s = true) (w3 : (Jvm.Cond.initialized "java/lang/Math").before args s = true) (w4 : (Jvm.Cond.code Lib.Math.max.name Lib.Math.max.code 2 (some .int)).before args s = true)
    (h : ab_mx st cs = some (st2, cs2)) (kk : cs2 = cs → W p l e R s m args below meth c H locs cells slots Q (F0 m (pc + 3) ls (st2.map (ab_v ad)))) : W p l e R s m args below meth c H locs cells slots Q (F0 m pc ls (st.map (ab_v ad))) := by
  unfold ab_mx at h
  split at h
  · rename_i y x r
    split at h
    · rename_i hs
      cases h
      exact va_mmax hx hb hml hown w1 w2 w3 w4 hR.1 (by rw [ab_sm_map]; omega) hce hsl hdg (kk rfl)
    · cases h
  · cases h
theorem ab_mn_ok (hx : p.tables.exec = Jvm.exec) (hb : c.code = cc) (hml : c.maxLocals = ls.size) (hown : s.vm.findClass own = some m.cls) (hR : 1 ≤ R.frames ∧ 100 ≤ R.locals) (hce : cells ≤ R.cells) (hsl : slots ≤ R.slots) {i : Nat} (hdg : decode cc pc = .ok (.invokestatic i, 3))
    (w1 : (Jvm.Cond.methodLink own i Lib.Math.min.name).before args s = true) (w2 : (Jvm.Cond.static Lib.Math.min.name).before args s = true) (w3 : (Jvm.Cond.initialized "java/lang/Math").before args s = true) (w4 : (Jvm.Cond.code Lib.Math.min.name Lib.Math.min.code 2 (some .int)).before args s = true)
    (h : ab_mn st cs = some (st2, cs2)) (kk : cs2 = cs → W p l e R s m args below meth c H locs cells slots Q (F0 m (pc + 3) ls (st2.map (ab_v ad)))) : W p l e R s m args below meth c H locs cells slots Q (F0 m pc ls (st.map (ab_v ad))) := by
  unfold ab_mn at h
  split at h
  · rename_i y x r
    split at h
    · rename_i hs
      cases h
      exact va_mmin hx hb hml hown w1 w2 w3 w4 hR.1 (by rw [ab_sm_map]; omega) hce hsl hdg (kk rfl)
    · cases h
  · cases h
set_option maxHeartbeats 4000000 in
theorem ab_hp_ok (hx : p.tables.exec = Jvm.exec) (hb : c.code = cc) (hml : c.maxLocals = ls.size) (hown : s.vm.findClass own = some m.cls) (hts : ∀ w ∈ Ts, w.before args s = true) (hG : ab_cg cl Ts G) {Z : ab_Z} {o : Nat} {isI : Bool} (hcq : ∃ T N ty, G Z.1 = some (Cq, T, N, ty)) (hTT : ab_TT Z.2 Sl ad A s s.heap) (howG : ∀ C T N ty, G o = some (C, T, N, ty) → C = own) (hI : isI = true → meth.name = "<init>") (hK : va_K D cl (ab_ty K Cq) s)
    (hR : 1 ≤ R.frames ∧ 100 ≤ R.locals) (hce : cells ≤ R.cells) (hsl : slots ≤ R.slots) {ins : Instr} {k : ab_K} (hdg : decode cc pc = .ok (ins, len)) (hln : ab_ln ins = len ∨ ab_ln ins = 0) (hW : ∀ w ∈ ab_wd Sl M G own ins k, w.before args s = true) (h13 : ∀ i, ins = .getstatic i → k.1 = 13 → ¬ Sl[k.2.1]? = none)
    (h : ab_hp G Z o isI ins k st cs = some (st2, cs2)) (hP : va_P D cl (ab_w K ad 0 cs) H) (hD : va_D A (ab_w K ad 0 cs)) (hS : va_S A s.heap H locs)
    (kk : ∀ (H1 : Heap) (locs1 : List Loc), va_P D cl (ab_w K ad 0 cs2) H1 → va_D A (ab_w K ad 0 cs2) → va_S A s.heap H1 locs1 → W p l e R s m args below meth c H1 locs1 cells slots Q (F0 m (pc + len) ls (st2.map (ab_v ad)))) : W p l e R s m args below meth c H locs cells slots Q (F0 m pc ls (st.map (ab_v ad))) := by
  have same : ∀ {n : Nat}, len = n → cs2 = cs → W p l e R s m args below meth c H locs cells slots Q (F0 m (pc + n) ls (st2.map (ab_v ad))) := fun hn q => by
    subst hn
    subst q
    exact kk H locs hP hD hS
  unfold ab_hp at h
  split at h
  · split at h
    · obtain rfl := ab_len (n := 2) rfl hln
      exact ab_gf_ok hx hb hown hts hG hK hdg hW h hP (same rfl)
    · cases h
  · split at h
    · obtain rfl := ab_len (n := 2) rfl hln
      exact ab_pf_ok hx hb hown hts hG howG hI hK hdg hW h hP hD hS kk
    · cases h
  · obtain rfl := ab_len (n := 0) rfl hln
    exact ab_ia_ok hx hb hK hTT hS hdg h hP (same rfl)
  · obtain rfl := ab_len (n := 0) rfl hln
    exact ab_la_ok hx hb hK hdg h hP (same rfl)
  · obtain rfl := ab_len (n := 0) rfl hln
    exact ab_aa_ok hx hb hK hdg h hP (same rfl)
  · obtain rfl := ab_len (n := 0) rfl hln
    exact ab_is_ok hx hb hK hdg h hP hD hS kk
  · obtain rfl := ab_len (n := 0) rfl hln
    exact ab_lst_ok hx hb hK hdg h hP hD hS kk
  · obtain rfl := ab_len (n := 0) rfl hln
    exact ab_as_ok hx hb hG hcq hK hdg h hP hD hS kk
  · obtain rfl := ab_len (n := 0) rfl hln
    exact ab_al_ok hx hb hK hTT hS hdg h hP (same rfl)
  · rename_i i
    obtain rfl := ab_len (n := 2) rfl hln
    split at h
    · rename_i h7
      have hw : ∀ w ∈ ([.methodLink own i Lib.Math.max.name, .static Lib.Math.max.name, .initialized "java/lang/Math", .code Lib.Math.max.name Lib.Math.max.code 2 (some .int)] : List Jvm.Cond), w.before args s = true := fun w q => hW w (by unfold ab_wd; dsimp only; rw [if_pos h7]; exact q)
      exact ab_mx_ok hx hb hml hown hR hce hsl hdg (hw _ (by simp)) (hw _ (by simp)) (hw _ (by simp)) (hw _ (by simp)) h (same rfl)
    · rename_i h7
      split at h
      · rename_i h8
        have hw : ∀ w ∈ ([.methodLink own i Lib.Math.min.name, .static Lib.Math.min.name, .initialized "java/lang/Math", .code Lib.Math.min.name Lib.Math.min.code 2 (some .int)] : List Jvm.Cond), w.before args s = true := fun w q => hW w (by unfold ab_wd; dsimp only; rw [if_neg h7, if_pos h8]; exact q)
        exact ab_mn_ok hx hb hml hown hR hce hsl hdg (hw _ (by simp)) (hw _ (by simp)) (hw _ (by simp)) (hw _ (by simp)) h (same rfl)
      · rename_i h8
        split at h
        · rename_i h9
          have hw : ∀ w ∈ ([.methodLink own i arraycopyName, .native arraycopyName, .static arraycopyName, .initialized "java/lang/System"] : List Jvm.Cond), w.before args s = true := fun w q => hW w (by unfold ab_wd; dsimp only; rw [if_neg h7, if_neg h8, if_pos h9]; exact q)
          exact ab_cy_ok hx hb hml hown hR hK hdg (hw _ (by simp)) (hw _ (by simp)) (hw _ (by simp)) (hw _ (by simp)) h hP hD hS kk
        · cases h
  · rename_i i
    obtain rfl := ab_len (n := 2) rfl hln
    split at h
    · rename_i h6
      have hw : ∀ w ∈ ([.methodLink own i objectInit, .instanceMethod objectInit, .code objectInit ⟨#[0xb1]⟩ 1 none] : List Jvm.Cond), w.before args s = true := fun w q => hW w (by unfold ab_wd; dsimp only; rw [if_pos h6]; exact q)
      exact ab_oi_ok hx hb hml hown hR hdg (hw _ (by simp)) (hw _ (by simp)) (hw _ (by simp)) h (same rfl)
    · cases h
  · split at h
    · rename_i h10
      cases h
      obtain rfl := ab_len (n := 1) rfl hln
      exact lv_ldc hx hb hown (hW _ (by unfold ab_wd; dsimp only; rw [if_pos h10]; exact List.mem_cons_self)) hdg (same rfl rfl)
    · cases h
  · split at h
    · rename_i h10
      cases h
      obtain rfl := ab_len (n := 2) rfl hln
      exact lv_ldcw hx hb hown (hW _ (by unfold ab_wd; dsimp only; rw [if_pos h10]; exact List.mem_cons_self)) hdg (same rfl rfl)
    · cases h
  · split at h
    · rename_i h11
      cases h
      obtain rfl := ab_len (n := 2) rfl hln
      exact lv_ldc2 hx hb hown (hW _ (by unfold ab_wd; dsimp only; rw [if_pos h11]; exact List.mem_cons_self)) hdg (same rfl rfl)
    · cases h
  · rename_i i
    split at h
    · rename_i h13k
      cases h
      obtain rfl := ab_len (n := 2) rfl hln
      cases hq : Sl[k.2.1]? with
      | none => exact absurd hq (h13 i rfl h13k)
      | some q => exact va_gets hx hb (hTT.2 _ _ hq) hS hown (hW _ (by unfold ab_wd; dsimp only; rw [if_pos h13k, hq]; exact List.mem_cons_self)) (fun _ q => q) hdg (same rfl rfl)
    · cases h
  · cases h
/-- a new cell -/
def ab_nx (ad : Nat → Nat) (n q : Nat) : Nat → Nat := fun j => if j = n then q else ad j
theorem ab_nx_old (ad : Nat → Nat) {n : Nat} (hn : n < 1000000) (q : Nat) : ∀ k, k < n ∨ 1000000 ≤ k → ab_nx ad n q k = ad k := fun k hk => if_neg (by omega)
theorem ab_nx_new (ad : Nat → Nat) (n q : Nat) : ab_nx ad n q n = q := if_pos rfl
theorem ab_K_last {t : FieldType} {cA : ClassId} {tys : List (ClassId × FieldType)} (h : va_K D cl (tys ++ [(cA, t)]) s) : va_RA s cA t := (h.2 tys.length (cA, t) (by simp)).2
theorem ab_w_new (K : ab_Q) (ad : Nat → Nat) (cs : List ab_C) (c1 : ab_C) (q : Nat) (hn : cs.length < 1000000) (hf : cs.all (ab_fc cs.length) = true) : ab_w K (ab_nx ad cs.length q) 0 (cs ++ [c1]) = ab_w K ad 0 cs ++ [(q, ab_e K (ab_nx ad cs.length q) c1)] := by
  rw [ab_w_app, ab_w_ext K (ab_nx_old ad hn q) cs 0 (by omega) hf]
  show _ ++ [(ab_nx ad cs.length q (0 + cs.length), _)] = _
  rw [Nat.zero_add, ab_nx_new]
set_option maxHeartbeats 4000000 in
theorem ab_nw_ok (hx : p.tables.exec = Jvm.exec) (hb : c.code = cc) (hown : s.vm.findClass own = some m.cls) (hts : ∀ w ∈ Ts, w.before args s = true) (hG : ab_cg cl Ts G) {cq : Nat} (hcq : ∃ T N ty, G cq = some (Cq, T, N, ty)) (hK : va_K D cl (ab_ty K Cq) s) (hAO : va_AO Cq s) {ins : Instr} {k : ab_K} {c1 : ab_C}
    (hdg : decode cc pc = .ok (ins, len)) (hln : ab_ln ins = len ∨ ab_ln ins = 0) (hW : ∀ w ∈ ab_wd Sl M G own ins k, w.before args s = true) (h : ab_nw G cq ins k st = some (st2, c1)) (hf : cs.all (ab_fc cs.length) = true) (hnn : cs.length < 1000000)
    (hA : ∀ q, H0.size ≤ q → A q) (hce : cells + 1 ≤ R.cells) (hsl : slots + ab_sc c1 ≤ R.slots) (hP : va_P D cl (ab_w K ad 0 cs) H) (hD : va_D A (ab_w K ad 0 cs)) (hS : va_S A H0 H locs)
    (kk : ∀ (q : Nat) (H1 : Heap), va_P D cl (ab_w K (ab_nx ad cs.length q) 0 (cs ++ [c1])) H1 → va_D A (ab_w K (ab_nx ad cs.length q) 0 (cs ++ [c1])) → va_S A H0 H1 locs → W p l e R s m args below meth c H1 locs (cells + 1) (slots + ab_sc c1) Q (F0 m (pc + len) ls (.ref q :: st2.map (ab_v ad)))) : W p l e R s m args below meth c H locs cells slots Q (F0 m pc ls (st.map (ab_v ad))) := by
  unfold ab_nw at h
  split at h
  · rename_i i
    split at h
    · split at h
      · rename_i C T N ty hg
        cases h
        obtain ⟨h1, h2, h3, h4, h5⟩ := hG _ _ _ _ _ hg
        obtain rfl := ab_len (n := 2) rfl hln
        have hw : ∀ w ∈ ([.classLink own i C, .instantiable C N, .initialized C] : List Jvm.Cond), w.before args s = true := fun w q => hW w (by unfold ab_wd; rw [hg]; exact q)
        have hN : ab_sc (.inr (.inr (.inr (k.2.1, ab_df ty N)))) = N := by
          show (ab_df ty N).length = N
          unfold ab_df
          simp
        rw [hN] at hsl kk
        exact va_new hx hb hts h2 ty h3 hown (hw _ (by simp)) (hw _ (by simp)) (hw _ (by simp)) hK hP hD hS hA h1 (ab_dfv ty N) hce hsl hdg (fun q H1 p1 d1 s1 => by
          have he : ab_e K (ab_nx ad cs.length q) (.inr (.inr (.inr (k.2.1, ab_df ty N)))) = .inr (k.2.1, ab_df ty N) := by
            show Sum.inr (k.2.1, (ab_df ty N).map _) = _
            rw [ab_dfl]
          refine kk q H1 ?_ ?_ s1
          · rw [ab_w_new K ad cs _ q hnn hf, he]; exact p1
          · rw [ab_w_new K ad cs _ q hnn hf, he]; exact d1)
      · cases h
    · cases h
  · rename_i ty
    split at h
    · rename_i n r
      split at h
      · cases h
      · rename_i hn
        obtain ⟨hn0, hn1⟩ := not_or.mp hn
        obtain rfl := ab_len (n := 1) rfl hln
        have hw := hW (.arrayClass (newarray.typeOf ty)) (by unfold ab_wd; exact List.mem_cons_self)
        split at h
        · cases h
          have hN : ab_sc (.inl (List.replicate n.toNatClampNeg 0)) = n.toNatClampNeg := by show (List.replicate n.toNatClampNeg (0 : Int32)).length = _; simp
          rw [hN] at hsl kk
          exact va_newa (atype := .int) hx hb hw rfl hK hP hD hS hA (a0 := (n.toNatClampNeg, .inl (fun _ => 0))) (fun _ => rfl) hn0 rfl (by show n.toNatClampNeg * 4 ≤ _; omega) hce hsl hdg (fun q cA H1 k1 p1 d1 s1 => by
            have hc : cA = K.1 := Option.some.inj ((ab_K_last k1).symm.trans (hK.2 0 (K.1, .int) rfl).2)
            subst hc
            have he : ab_e K (ab_nx ad cs.length q) (.inl (List.replicate n.toNatClampNeg 0)) = .inl (K.1, n.toNatClampNeg, .inl (fun _ => 0)) := by
              show Sum.inl (K.1, (List.replicate n.toNatClampNeg (0 : Int32)).length, _) = _
              rw [List.length_replicate]
              congr 4
              funext j
              simp [List.getD_eq_getElem?_getD, List.getElem?_replicate]
              split <;> rfl
            refine kk q H1 ?_ ?_ s1
            · rw [ab_w_new K ad cs _ q hnn hf, he]; exact p1
            · rw [ab_w_new K ad cs _ q hnn hf, he]; exact d1)
        · cases h
          have hN : ab_sc (.inr (.inl (List.replicate n.toNatClampNeg 0))) = n.toNatClampNeg := by show (List.replicate n.toNatClampNeg (0 : Int64)).length = _; simp
          rw [hN] at hsl kk
          exact va_newa (atype := .long) hx hb hw rfl hK hP hD hS hA (a0 := (n.toNatClampNeg, .inr (.inl (fun _ => 0)))) (fun _ => rfl) hn0 rfl (by show n.toNatClampNeg * 8 ≤ _; omega) hce hsl hdg (fun q cA H1 k1 p1 d1 s1 => by
            have hc : cA = K.2.1 := Option.some.inj ((ab_K_last k1).symm.trans (hK.2 1 (K.2.1, .long) rfl).2)
            subst hc
            have he : ab_e K (ab_nx ad cs.length q) (.inr (.inl (List.replicate n.toNatClampNeg 0))) = .inl (K.2.1, n.toNatClampNeg, .inr (.inl (fun _ => 0))) := by
              show Sum.inl (K.2.1, (List.replicate n.toNatClampNeg (0 : Int64)).length, _) = _
              rw [List.length_replicate]
              congr 5
              funext j
              simp [List.getD_eq_getElem?_getD, List.getElem?_replicate]
              split <;> rfl
            refine kk q H1 ?_ ?_ s1
            · rw [ab_w_new K ad cs _ q hnn hf, he]; exact p1
            · rw [ab_w_new K ad cs _ q hnn hf, he]; exact d1)
        · cases h
    · cases h
  · rename_i i
    split at h
    · rename_i n r
      split at h
      · cases h
      · rename_i hn
        obtain ⟨hn0, hn⟩ := not_or.mp hn
        obtain ⟨hn1, hn⟩ := not_or.mp hn
        obtain ⟨hn2, hn3⟩ := not_or.mp hn
        have hn3 := Classical.not_not.mp hn3
        cases h
        obtain rfl := ab_len (n := 2) rfl hln
        obtain ⟨T, N, ty, hg⟩ := hcq
        have hw : (Jvm.Cond.classLink own i Cq).before args s = true := hW _ (by unfold ab_wd; rw [hn3, hg]; exact List.mem_cons_self)
        have hN : ab_sc (.inr (.inr (.inl (List.replicate n.toNatClampNeg none)))) = n.toNatClampNeg := by show (List.replicate n.toNatClampNeg (none : Option Nat)).length = _; simp
        rw [hN] at hsl kk
        exact va_newq hx hb hown hw hAO hK hP hD hS hA hn0 rfl (by omega) hce hsl hdg (fun q cA H1 k1 p1 d1 s1 => by
            obtain ⟨_, _, _, _, _, g1⟩ := ab_K_last k1
            obtain ⟨_, _, _, _, _, g2⟩ := (hK.2 2 (K.2.2, .object Cq) rfl).2
            have hc : cA = K.2.2 := Option.some.inj (g1.symm.trans g2)
            subst hc
            have he : ab_e K (ab_nx ad cs.length q) (.inr (.inr (.inl (List.replicate n.toNatClampNeg none)))) = .inl (K.2.2, n.toNatClampNeg, .inr (.inr (.inr (.inr (fun _ => none))))) := by
              show Sum.inl (K.2.2, (List.replicate n.toNatClampNeg (none : Option Nat)).length, _) = _
              rw [List.length_replicate]
              congr 7
              funext j
              simp [List.getD_eq_getElem?_getD, List.getElem?_replicate]
              split <;> rfl
            refine kk q H1 ?_ ?_ s1
            · rw [ab_w_new K ad cs _ q hnn hf, he]; exact p1
            · rw [ab_w_new K ad cs _ q hnn hf, he]; exact d1)
    · cases h
  · cases h
end ABS4
end
section
/-! calls, a frame, a method -/
theorem ab_hp_sz {G : Nat → Option ab_T} {Z : ab_Z} {o : Nat} {isI : Bool} {ins : Instr} {k : ab_K} {st st2 : List Value} {cs cs2 : List ab_C} (h : ab_hp G Z o isI ins k st cs = some (st2, cs2)) : cs2.length = cs.length ∧ ab_sz cs2 = ab_sz cs := by
  unfold ab_hp at h
  split at h
  · split at h
    · unfold ab_gf at h
      split at h
      · split at h
        · split at h
          · split at h
            · cases h; exact ⟨rfl, rfl⟩
            · cases h
          · cases h
        · cases h
      · cases h
    · cases h
  · split at h
    · unfold ab_pf at h
      split at h
      · split at h
        · rename_i he hg
          split at h
          · cases h
            exact ⟨List.length_set, ab_sz_set he (by show (List.set _ _ _).length = _; rw [List.length_set]; rfl)⟩
          · cases h
        · cases h
      · cases h
    · cases h
  · unfold ab_ia at h
    split at h
    · split at h
      · split at h
        · cases h
        · cases h; exact ⟨rfl, rfl⟩
      · split at h
        · split at h
          · cases h
          · cases h; exact ⟨rfl, rfl⟩
        · cases h
      · cases h
    · cases h
  · unfold ab_la at h
    split at h
    · split at h
      · split at h
        · cases h
        · cases h; exact ⟨rfl, rfl⟩
      · cases h
    · cases h
  · unfold ab_aa at h
    split at h
    · split at h
      · split at h
        · cases h
        · cases h; exact ⟨rfl, rfl⟩
      · cases h
    · cases h
  · unfold ab_is at h
    split at h
    · split at h
      · rename_i he
        split at h
        · cases h
        · cases h
          exact ⟨List.length_set, ab_sz_set he (by show (List.set _ _ _).length = _; rw [List.length_set]; rfl)⟩
      · cases h
    · cases h
  · unfold ab_lst at h
    split at h
    · split at h
      · rename_i he
        split at h
        · cases h
        · cases h
          exact ⟨List.length_set, ab_sz_set he (by show (List.set _ _ _).length = _; rw [List.length_set]; rfl)⟩
      · cases h
    · cases h
  · unfold ab_as at h
    split at h
    · split at h
      · rename_i he _
        split at h
        · split at h
          · cases h
          · cases h
            exact ⟨List.length_set, ab_sz_set he (by show (List.set _ _ _).length = _; rw [List.length_set]; rfl)⟩
        · cases h
      · cases h
    · cases h
  · unfold ab_al at h
    split at h
    · split at h
      · cases h; exact ⟨rfl, rfl⟩
      · cases h; exact ⟨rfl, rfl⟩
      · cases h; exact ⟨rfl, rfl⟩
      · split at h
        · split at h
          · cases h
          · cases h; exact ⟨rfl, rfl⟩
        · cases h
      · cases h
    · cases h
  · split at h
    · unfold ab_mx at h
      split at h
      · split at h
        · cases h; exact ⟨rfl, rfl⟩
        · cases h
      · cases h
    · split at h
      · unfold ab_mn at h
        split at h
        · split at h
          · cases h; exact ⟨rfl, rfl⟩
          · cases h
        · cases h
      · split at h
        · unfold ab_cy at h
          split at h
          · split at h
            · cases h
            · split at h
              · rename_i he
                split at h
                · rename_i hq
                  cases h
                  exact ⟨List.length_set, ab_sz_set he (ab_cpl hq.1 hq.2)⟩
                · cases h
              · rename_i he
                split at h
                · rename_i hq
                  cases h
                  exact ⟨List.length_set, ab_sz_set he (ab_cpl hq.1 hq.2)⟩
                · cases h
              · cases h
          · cases h
        · cases h
  · split at h
    · unfold ab_oi at h
      split at h
      · split at h
        · cases h; exact ⟨rfl, rfl⟩
        · cases h
      · cases h
    · cases h
  · split at h
    · cases h; exact ⟨rfl, rfl⟩
    · cases h
  · split at h
    · cases h; exact ⟨rfl, rfl⟩
    · cases h
  · split at h
    · cases h; exact ⟨rfl, rfl⟩
    · cases h
  · split at h
    · cases h; exact ⟨rfl, rfl⟩
    · cases h
  · cases h
def ab_nr (v : Option Value) : Prop := ∀ ad : Nat → Nat, v.toList.map (ab_v ad) = v.toList
theorem ab_re_nr {ret : Option FieldType} {ins : Instr} {st : List Value} {v : Option Value} (h : ab_re ret ins st = some v) : ab_nr v := by
  unfold ab_re at h
  split at h
  · split at h
    · split at h
      · cases h; exact fun _ => rfl
      · split at h
        · cases h; exact fun _ => rfl
        · cases h
      · cases h
    · cases h
  · split at h
    · split at h
      · cases h; exact fun _ => rfl
      · cases h
    · cases h
  · split at h
    · split at h
      · cases h; exact fun _ => rfl
      · cases h
    · cases h
  · cases h
theorem ab_fr_le {M : List ab_D} {G : Nat → Option ab_T} {Z : ab_Z} {call : Nat → List Value → List ab_C → Option (Option Value × List ab_C)} {md : ab_D} (hc : ∀ (y : Nat) (As : List Value) (cs : List ab_C) (v : Option Value) (cs2 : List ab_C), call y As cs = some (v, cs2) → cs.length ≤ cs2.length ∧ ab_sz cs ≤ ab_sz cs2 ∧ ab_nr v) :
    ∀ (f : Nat) (pc : Nat) (L : ab_L) (st : List Value) (cs : List ab_C) (v : Option Value) (cs2 : List ab_C), ab_fr M G Z call md f (pc, L, st, cs) = some (v, cs2) → cs.length ≤ cs2.length ∧ ab_sz cs ≤ ab_sz cs2 ∧ ab_nr v := by
  intro f
  induction f with
  | zero => intro pc L st cs v cs2 h; cases h
  | succ f ih =>
    intro pc L st cs v cs2 h
    unfold ab_fr at h
    split at h
    · cases h
    · split at h
      · cases h
      · split at h
        · exact ih _ _ _ _ _ _ h
        · split at h
          · exact ih _ _ _ _ _ _ h
          · split at h
            · rename_i hp
              have h1 := ih _ _ _ _ _ _ h
              have h2 := ab_hp_sz hp
              rw [h2.1, h2.2] at h1
              exact h1
            · split at h
              · rename_i hv
                cases h
                exact ⟨Nat.le_refl _, Nat.le_refl _, ab_re_nr hv⟩
              · split at h
                · split at h
                  · have h1 := ih _ _ _ _ _ _ h
                    rw [List.length_append, ab_sz_app] at h1
                    exact ⟨by omega, by omega, h1.2.2⟩
                  · cases h
                · split at h
                  · cases h
                  · split at h
                    · cases h
                    · split at h
                      · split at h
                        · cases h
                        · rename_i hcl
                          split at h
                          · have h1 := ih _ _ _ _ _ _ h
                            have h2 := hc _ _ _ _ _ hcl
                            exact ⟨Nat.le_trans h2.1 h1.1, Nat.le_trans h2.2.1 h1.2.1, h1.2.2⟩
                          · cases h
                      · cases h
theorem ab_run_le {M : List ab_D} {G : Nat → Option ab_T} {Z : ab_Z} : ∀ (d f y : Nat) (As : List Value) (cs : List ab_C) (v : Option Value) (cs2 : List ab_C), ab_run M G Z d f y As cs = some (v, cs2) → cs.length ≤ cs2.length ∧ ab_sz cs ≤ ab_sz cs2 ∧ ab_nr v := by
  intro d
  induction d with
  | zero => intro f y As cs v cs2 h; cases h
  | succ d ih =>
    intro f y As cs v cs2 h
    unfold ab_run at h
    split at h
    · cases h
    · split at h
      · exact ab_fr_le (fun y As cs v cs2 hc => ih f y As cs v cs2 hc) f _ _ _ _ _ _ h
      · cases h
def ab_WK (D : va_G) (cl : List vw_C) (K : ab_Q) (Cq : ab_X) (U : State) : Prop := va_K D cl (ab_ty K Cq.1) U ∧ va_AO Cq.1 U ∧ ∀ q ∈ Cq.2.1, va_Nw (.methodLinkNest q.1 q.2.1 q.2.2.1 q.2.2.2) U
theorem ab_WK.moved {D : va_G} {cl : List vw_C} {K : ab_Q} {Cq : ab_X} {u U : State} (hW : u.WarmedH U.vm) (h : ab_WK D cl K Cq u) : ab_WK D cl K Cq U := ⟨va_K.moved hW.alike h.1, va_AO.moved hW.alike h.2.1, fun q hq => va_Nw.warmM hW (h.2.2 q hq)⟩
theorem ab_WK.same {D : va_G} {cl : List vw_C} {K : ab_Q} {Cq : ab_X} {u U : State} (e : u.vm = U.vm) (h : ab_WK D cl K Cq u) : ab_WK D cl K Cq U := ⟨va_K.moved (by rw [e]; exact Vm.Alike.refl _) h.1, va_AO.moved (by rw [e]; exact Vm.Alike.refl _) h.2.1, fun q hq => va_Nw.same rfl e (h.2.2 q hq)⟩
def ab_Pc (D : va_G) (cl : List vw_C) (K : ab_Q) (Cq : ab_X) (ad : Nat → Nat) (cs : List ab_C) (sz : Nat) (As : List Value) : Array Value → State → Prop := va_Pc (As.map (ab_v ad)) (fun U => U.heap.size = sz ∧ va_P D cl (ab_w K ad 0 cs) U.heap ∧ ab_WK D cl K Cq U ∧ va_D (fun _ => True) (ab_w K ad 0 cs) ∧ ab_TT Cq.2.2.1 Cq.2.2.2 ad (va_A (ab_w K ad 0 cs) sz) U U.heap)
def ab_Bd (D : va_G) (cl : List vw_C) (K : ab_Q) (Cq : ab_X) (ad : Nat → Nat) (cs : List ab_C) (A : Nat → Prop) (cs2 : List ab_C) (t : State) : Prop := ∃ u : Nat → Nat, (cs2.length = cs.length → u = ad) ∧ (∀ k, k < cs.length ∨ 1000000 ≤ k → u k = ad k) ∧ va_P D cl (ab_w K u 0 cs2) t.heap ∧ ab_WK D cl K Cq t ∧ va_D A (ab_w K u 0 cs2)
def ab_Qc (D : va_G) (cl : List vw_C) (K : ab_Q) (Cq : ab_X) (ad : Nat → Nat) (cs : List ab_C) (sz : Nat) (v : Option Value) (cs2 : List ab_C) : Array Value → State → Outcome → State → Prop := fun _ st o t => (o = .returned v ∧ ab_Bd D cl K Cq ad cs (va_A (ab_w K ad 0 cs) sz) cs2 t) ∧ va_F (va_A (ab_w K ad 0 cs) sz) st t
/-- a method's contract, out of what the machine of worlds says of it -/
def ab_Mt (l : Launch) (D : va_G) (cl : List vw_C) (K : ab_Q) (Cq : ab_X) (Ws : List Jvm.Cond) (md : ab_D) (d : Nat) (As : List Value) (cs : List ab_C) (v : Option Value) (cs2 : List ab_C) : Prop := ∀ (ad : Nat → Nat) (sz : Nat),
  Met l md.1 (.code md.1 md.2.1 md.2.2.1 md.2.2.2.1 :: Ws) { frames := d, cells := cs2.length - cs.length, slots := ab_sz cs2 - ab_sz cs, locals := 100 * d } (ab_Pc D cl K Cq ad cs sz As) (ab_Qc D cl K Cq ad cs sz v cs2) (cs2.length - cs.length) (ab_sz cs2 - ab_sz cs) (va_A (ab_w K ad 0 cs) sz)
theorem ab_blind {D : va_G} {cl : List vw_C} {K : ab_Q} {Cq : ab_X} {ad : Nat → Nat} {cs : List ab_C} {sz : Nat} {As : List Value} : FrameBlind (ab_Pc D cl K Cq ad cs sz As) := fun a U g mk q => by
  obtain ⟨q0, q1, qP, qK, qD, qT⟩ := q
  exact ⟨q0, q1, qP, ab_WK.same (u := U) (U := U.calling g mk a) rfl qK, qD, qT.go (U := U.calling g mk a) (fun _ _ _ => rfl) (Vm.Alike.refl U.vm) (fun _ h => h)⟩
section ABS5
variable {p : Program} {l : Launch} {e : Env} {R : Room} {s : State} {m : MethodId} {args : Array Value} {below : List Frame} {meth : Method} {c : Code} {H : Heap} {locs : List Loc} {cells slots : Nat} {Q : State → Prop}
variable {cc : ByteArray} {pc : Nat} {ls : Array Slot} {D : va_G} {cl : List vw_C} {A : Nat → Prop} {H0 : Heap} {K : ab_Q} {Cq : ab_X} {own : String} {ad : Nat → Nat} {cs cs2 : List ab_C} {st st2 : List Value} {Ts Ws : List Jvm.Cond} {G : Nat → Option ab_T} {M : List ab_D} {len : Nat}
theorem ab_call {rest st0 : List Value} {mc ms : Nat} {v : Option Value} {a : Array Value} {free : Addr → Prop} (hr : va_Run p l e R s m args below meth c H locs cells slots mc ms (F0 m pc ls st0) rest (ab_Qc D cl K Cq ad cs H.size v cs2 a) free)
    (hS : va_S A H0 H locs) (hA : ∀ q, va_A (ab_w K ad 0 cs) H.size q → A q) (hf : ∀ q, free q → A q)
    (kk : ∀ (u : Nat → Nat) (H1 : Heap) (locs1 : List Loc), (cs2.length = cs.length → u = ad) → (∀ k, k < cs.length ∨ 1000000 ≤ k → u k = ad k) → va_P D cl (ab_w K u 0 cs2) H1 → va_D A (ab_w K u 0 cs2) → va_S A H0 H1 locs1 → W p l e R s m args below meth c H1 locs1 (cells + mc) (slots + ms) Q (F0 m (pc + 3) ls (v.toList ++ rest))) : W p l e R s m args below meth c H locs cells slots Q (F0 m pc ls st0) := by
  intro T hT X
  obtain ⟨v', st₀, t, T', L, h0, X', hL, e1, e2, ⟨⟨hv, u, b1, b2, b3, b4, b5⟩, hz, hk⟩, st⟩ := hr T hT X
  cases hv
  rw [h0] at hz hk
  obtain ⟨t2, a1, c1⟩ := kk u T'.heap (locs ++ L) b1 b2 (by rw [e1]; exact b3) (b5.weaken (fun _ _ _ h => hA _ h))
    ⟨Nat.le_trans hS.1 (by rw [e1]; exact hz), fun q h1 h2 => by rw [e1, hk q (Nat.lt_of_lt_of_le h1 hS.1) (fun z => h2 (hA q z))]; exact hS.2.1 q h1 h2, fun q hq => by
      rcases List.mem_append.mp hq with h | h
      · exact hS.2.2 q h
      · exact hf _ (hL q h)⟩ T' rfl X'
  exact ⟨t2, st t2 a1, c1⟩
/-- what is asked of the tables for a method -/
def ab_ok (Nl : ab_N) (Sl : List (String × String)) (M : List ab_D) (G : Nat → Option ab_T) (Ws : List Jvm.Cond) (md : ab_D) : Prop :=
  plainName md.1.cls = true ∧ (md.1.cls ≠ "java/lang/invoke/MethodHandle" ∧ md.1.cls ≠ "java/lang/invoke/VarHandle" ∧ (parseMethodDescriptor md.1.desc).map (fun d => d.parameters.length) = some md.2.2.2.2.2.1) ∧ Cond.code md.1 md.2.1 md.2.2.1 md.2.2.2.1 ∈ Ws ∧ md.2.2.1 ≤ 81 ∧ (md.2.2.2.2.2.2.1 = true → md.1.name = "<init>") ∧
  (∀ C T N ty, G md.2.2.2.2.1 = some (C, T, N, ty) → C = md.1.cls) ∧ ∀ (pc : Nat) (ins : Instr) (len : Nat) (k : ab_K) (ps : List Nat), ab_at md pc = some (ins, len, k, ps) → decode md.2.1 pc = .ok (ins, len) ∧ (∀ w ∈ ab_wd Sl M G md.1.cls ins k, w ∈ Ws) ∧ ab_nd Nl Sl M md.1.cls ins k
end ABS5
end
section
/-! a frame's walk, out of the machine of worlds -/
theorem ab_ag_args (ad : Nat → Nat) : ∀ (As : List Value) (i k : Nat) (v : Value), (ab_ag As)[k]? = some (some v) → (i + k, ab_v ad v) ∈ lv_args i (As.map (ab_v ad))
  | [], i, k, v, h => by simp [ab_ag] at h
  | a :: r, i, k, v, h => by
    unfold ab_ag at h
    rw [List.map_cons]
    unfold lv_args
    rw [ab_v_cat]
    split at h
    · rename_i hc
      rw [if_pos hc]
      match k, h with
      | 0, h => 
        cases h
        exact List.mem_cons_self
      | 1, h => cases h
      | k + 2, h => 
        rw [show i + (k + 2) = (i + 2) + k by omega]
        exact List.mem_cons_of_mem _ (ab_ag_args ad r (i + 2) k v h)
    · rename_i hc
      rw [if_neg hc]
      match k, h with
      | 0, h => 
        cases h
        exact List.mem_cons_self
      | k + 1, h => 
        rw [show i + (k + 1) = (i + 1) + k by omega]
        exact List.mem_cons_of_mem _ (ab_ag_args ad r (i + 1) k v h)
theorem ab_ag_len (ad : Nat → Nat) : ∀ (As : List Value), (lg_sl (As.map (ab_v ad))).length = (ab_ag As).length
  | [] => rfl
  | a :: r => by
    have ih := ab_ag_len ad r
    unfold lg_sl at ih ⊢
    unfold ab_ag
    rw [List.map_cons, List.flatMap_cons, ab_v_cat, List.length_append, ih]
    split
    · show 2 + _ = _ + 1 + 1
      omega
    · show 1 + _ = _ + 1
      omega
theorem ab_h_entry (ad : Nat → Nat) (As : List Value) {nL : Nat} (h : (ab_ag As).length ≤ nL) : ab_h ad ((lg_sl (As.map (ab_v ad)) ++ List.replicate (nL - (lg_sl (As.map (ab_v ad))).length) Slot.unset).toArray) nL (ab_ag As ++ List.replicate (nL - (ab_ag As).length) none) := by
  have hl := lv_entry (As.map (ab_v ad)) (n := nL) (by rw [ab_ag_len]; exact h)
  refine ⟨by simp; omega, hl.1, hl.2.1, fun k v hk => ?_⟩
  by_cases hkl : k < (ab_ag As).length
  · rw [List.getElem?_append_left hkl] at hk
    have hm := ab_ag_args ad As 0 k v hk
    rw [Nat.zero_add] at hm
    exact hl.2.2 _ hm
  · rw [List.getElem?_append_right (by omega), List.getElem?_replicate] at hk
    split at hk <;> cases hk
theorem ab_args_rev {st : List Value} {n : Nat} : st = (st.take n).reverse.reverse ++ st.drop n := by rw [List.reverse_reverse, List.take_append_drop]
section ABS6
variable {p : Program} {l : Launch} {e : Env} {s : State} {m : MethodId} {args : Array Value} {below : List Frame} {meth : Method} {c : Code} {D : va_G} {cl : List vw_C} {K : ab_Q} {Cq : ab_X} {Ts Ws : List Jvm.Cond} {G : Nat → Option ab_T} {M : List ab_D} {Z : ab_Z} {d : Nat} {md : ab_D}
set_option maxHeartbeats 8000000 in
theorem ab_ca_ok {Q : State → Prop} {R : Room} {own : String} {cc : ByteArray} {nL pc cells slots : Nat} {H : Heap} {locs : List Loc} {ls : Array Slot} {A : Nat → Prop} {ad : Nat → Nat} {cs cs2 : List ab_C} {st r As : List Value} {v : Option Value} {ins : Instr} {len y : Nat} {k : ab_K} {my : ab_D} {L : ab_L}
    (hx : p.tables.exec = Jvm.exec) (hb : c.code = cc) (hml : c.maxLocals = nL) (hown : s.vm.findClass own = some m.cls) (hts : ∀ w ∈ Ts, w.before args s = true) (hWs : GoodIn Ts Ws) (hG : ab_cg cl Ts G) (hWK : ab_WK D cl K Cq s) (hTT : ab_TT Cq.2.2.1 Cq.2.2.2 ad A s s.heap)
    (hdg : decode cc pc = .ok (ins, len)) (hln : ab_ln ins = len ∨ ab_ln ins = 0) (hwd : ∀ w ∈ ab_wd Cq.2.2.2 M G own ins k, w ∈ Ws) (hnd : ab_nd Cq.2.1 Cq.2.2.2 M own ins k) (hca : ab_ca ins k st = some (y, As, r)) (hmy : M[y]? = some my) (hok : ab_ok Cq.2.1 Cq.2.2.2 M G Ws my)
    (hsm : ab_sm r ≤ 8) (hnp : As.length = my.2.2.2.2.2.1 + cond (k.1 == 4) 0 1) (hrv : k.1 = 3 → ab_rv G my.2.2.2.2.1 As cs = true) (hsp : k.1 = 5 ∨ k.1 = 15 → my.2.2.2.2.2.2.1 = true ∧ my.2.2.2.1 = none ∧ ab_rf As = true)
    (hMt : ab_Mt l D cl K Cq Ws my d As cs v cs2) (hfr : d + 1 ≤ R.frames) (hlo : 100 * (d + 1) ≤ R.locals) (hP : va_P D cl (ab_w K ad 0 cs) H) (hD : va_D A (ab_w K ad 0 cs)) (hS : va_S A s.heap H locs) (hA : ∀ q, s.heap.size ≤ q → A q) (hL : ab_h ad ls nL L)
    (hce : cells + (cs2.length - cs.length) ≤ R.cells) (hsl : slots + (ab_sz cs2 - ab_sz cs) ≤ R.slots)
    (kk : ∀ (u : Nat → Nat) (H1 : Heap) (locs1 : List Loc), (cs2.length = cs.length → u = ad) → (∀ k, k < cs.length ∨ 1000000 ≤ k → u k = ad k) → va_P D cl (ab_w K u 0 cs2) H1 → va_D A (ab_w K u 0 cs2) → va_S A s.heap H1 locs1 → W p l e R s m args below meth c H1 locs1 (cells + (cs2.length - cs.length)) (slots + (ab_sz cs2 - ab_sz cs)) Q (F0 m (pc + 3) ls (v.toList ++ r.map (ab_v ad)))) : W p l e R s m args below meth c H locs cells slots Q (F0 m pc ls (st.map (ab_v ad))) := by
  obtain ⟨o1, o2, o3, o4, o5, o6, o7⟩ := hok
  have hA1 : ∀ q, va_A (ab_w K ad 0 cs) H.size q → A q := fun q h => by
    rcases h with ⟨k, e, h⟩ | h
    · exact hD.2 k _ h
    · exact hA q (Nat.le_trans hS.1 h)
  have hpre : ∀ U : State, U.heap = H → s.WarmedH U.vm → ab_Pc D cl K Cq ad cs H.size As (As.map (ab_v ad)).toArray U := fun U hU hW => ⟨rfl, by rw [hU], by rw [hU]; exact hP, hWK.moved hW, hD.weaken (fun _ _ _ _ => trivial), by rw [hU]; exact hTT.go hS.2.1 hW.alike hA1⟩
  have hgood : ∀ (ws : List Jvm.Cond), (∀ w ∈ ws, w ∈ Ws) → GoodIn Ts ws := fun ws h w hw => hWs w (h w hw)
  have hcons : ∀ w ∈ (Cond.code my.1 my.2.1 my.2.2.1 my.2.2.2.1 :: Ws), w ∈ Ws := fun w h => by
    rcases List.mem_cons.mp h with rfl | h
    · exact o3
    · exact h
  have hroom : d + 1 ≤ R.frames ∧ 8 + (my.2.2.1 + 11) + 100 * d ≤ R.locals := ⟨hfr, by omega⟩
  have hrm : 2 * (F0 m pc ls (st.map (ab_v ad))).monitorRoom + ((r.map (ab_v ad)).map fun v => v.category).sum ≤ 8 := by
    rw [ab_sm_map]
    show 2 * 0 + _ ≤ 8
    omega
  have hM := hMt ad H.size
  unfold ab_ca at hca
  split at hca
  · rename_i i
    split at hca
    · rename_i hk
      cases hca
      obtain rfl := ab_len (n := 2) rfl hln
      have hw : ∀ w ∈ ([.methodLink own i my.1, .instanceMethod my.1, .selects my.1.cls my.1 my.1, .initialized my.1.cls] : List Jvm.Cond), w ∈ Ws := fun w q => hwd w (by unfold ab_wd; dsimp only; rw [hmy]; exact q)
      have hr3 := hrv hk.1
      have hst : st = (st.take (k.2.2 + 1)).reverse.reverse ++ st.drop (k.2.2 + 1) := ab_args_rev
      generalize hAs : (st.take (k.2.2 + 1)).reverse = As at *
      generalize hrr : st.drop (k.2.2 + 1) = r at *
      subst hst
      unfold ab_rv at hr3
      split at hr3
      · rename_i a As'
        split at hr3
        · rename_i ci fs he
          rw [Bool.and_eq_true] at hr3
          have hci := of_decide_eq_true hr3.1
          subst hci
          obtain ⟨⟨C, T, N, ty⟩, hg⟩ := Option.isSome_iff_exists.mp hr3.2
          have hC := o6 C T N ty hg
          subst hC
          obtain ⟨h1, -⟩ := hG _ _ _ _ _ hg
          have hn : (As'.map (ab_v ad)).length = my.2.2.2.2.2.1 := by
            rw [List.length_map]
            rw [hk.1] at hnp
            simpa using hnp
          refine ab_call (va_runV (As := As'.map (ab_v ad)) (rest := r.map (ab_v ad)) (b := ad a) ⟨hx, hb, hml, hown, hts⟩ hM (cwV my.2.2.2.2.2.1 hts (hgood _ (fun w h => ?_)) rfl rfl rfl ⟨rfl, o2⟩ hroom) ⟨ab_blind, va_recv hWK.1 hP h1 (ab_w_at he), hpre⟩ rfl hn hL.2.1 ?_ hrm hdg ⟨hce, hsl⟩) hS hA1 (fun q h => hA1 q h) kk
          · rcases List.mem_append.mp h with h | h
            · exact hw w h
            · exact hcons w h
          · show List.map (ab_v ad) _ = _
            simp [ab_v]
        · cases hr3
      · cases hr3
    · cases hca
  · rename_i i
    split at hca
    · rename_i hk
      cases hca
      obtain rfl := ab_len (n := 2) rfl hln
      have hw : ∀ w ∈ ([.methodLink own i my.1, .static my.1, .initialized my.1.cls] : List Jvm.Cond), w ∈ Ws := fun w q => hwd w (by unfold ab_wd; dsimp only; rw [if_neg (by omega), if_neg (by omega), if_neg (by omega), hmy]; exact q)
      have hst : st = (st.take k.2.2).reverse.reverse ++ st.drop k.2.2 := ab_args_rev
      generalize hAs : (st.take k.2.2).reverse = As at *
      generalize hrr : st.drop k.2.2 = r at *
      subst hst
      have hn : (As.map (ab_v ad)).length = my.2.2.2.2.2.1 := by
        rw [List.length_map]
        rw [hk.1] at hnp
        simpa using hnp
      refine ab_call (va_runS (As := As.map (ab_v ad)) (rest := r.map (ab_v ad)) ⟨hx, hb, hml, hown, hts⟩ hM (va_cwS my.2.2.2.2.2.1 hts (hgood _ (fun w h => ?_)) rfl rfl rfl o2 hroom) ⟨ab_blind, hpre⟩ rfl hn hL.2.1 ?_ hrm hdg ⟨hce, hsl⟩) hS hA1 (fun q h => hA1 q h) kk
      · rcases List.mem_append.mp h with h | h
        · exact hw w h
        · exact hcons w h
      · show List.map (ab_v ad) _ = _
        simp
    · cases hca
  · rename_i i
    split at hca
    · rename_i hk
      cases hca
      obtain rfl := ab_len (n := 2) rfl hln
      obtain ⟨h51, h52, h53⟩ := hsp hk.1
      have hst : st = (st.take (k.2.2 + 1)).reverse.reverse ++ st.drop (k.2.2 + 1) := ab_args_rev
      generalize hAs : (st.take (k.2.2 + 1)).reverse = As at *
      generalize hrr : st.drop (k.2.2 + 1) = r at *
      subst hst
      unfold ab_rf at h53
      split at h53
      · rename_i a As'
        have hn : (As'.map (ab_v ad)).length = my.2.2.2.2.2.1 := by
          rw [List.length_map]
          rcases hk.1 with hk1 | hk1 <;> rw [hk1] at hnp <;> simpa using hnp
        rw [h52] at hM hcons
        have hst : List.map (ab_v ad) ((Value.ref a :: As').reverse ++ r) = (As'.map (ab_v ad)).reverse ++ Value.ref (ad a) :: r.map (ab_v ad) := by simp [ab_v]
        rcases hk.1 with hk1 | hk1
        · have hw : ∀ w ∈ ([.methodLink own i my.1, .instanceMethod my.1, .initialized my.1.cls] : List Jvm.Cond), w.before args s = true := fun w q => hts w (hWs w (hwd w (by unfold ab_wd; dsimp only; rw [if_neg (by omega), if_neg (by omega), hmy]; exact q))).1
          exact ab_call (va_runI (As := As'.map (ab_v ad)) (rest := r.map (ab_v ad)) (b := ad a) ⟨hx, hb, hml, hown, hts⟩ hM (cwI my.2.2.2.2.2.1 hts (hgood _ hcons) rfl rfl rfl (hw _ (by simp)) (hw _ (by simp)) (hw _ (by simp)) (o5 h51) ⟨o2.1, o2.2.1, o2.2.2⟩ hroom) ⟨ab_blind, hpre⟩ rfl hn hL.2.1 hst hrm hdg ⟨hce, hsl⟩) hS hA1 (fun q h => hA1 q h) kk
        · have hw : ∀ w ∈ ([.instanceMethod my.1, .initialized my.1.cls] : List Jvm.Cond), w.before args s = true := fun w q => hts w (hWs w (hwd w (by unfold ab_wd; dsimp only; rw [if_neg (by omega), if_pos hk1, hmy]; exact q))).1
          obtain ⟨host, hh⟩ := hnd.1 i my rfl hk1 hmy
          exact ab_call (va_runIN (As := As'.map (ab_v ad)) (rest := r.map (ab_v ad)) (b := ad a) ⟨hx, hb, hml, hown, hts⟩ hM ⟨va_cnB my.2.2.2.2.2.1 hts (hgood _ hcons) rfl rfl rfl (hWK.2.2 _ hh) (hw _ (by simp)) ⟨o2.1, o2.2.1, o2.2.2⟩ hroom, o5 h51, hw _ (by simp)⟩ ⟨ab_blind, hpre⟩ rfl hn hL.2.1 hst hrm hdg ⟨hce, hsl⟩) hS hA1 (fun q h => hA1 q h) kk
      · cases h53
    · cases hca
  · cases hca
/-- what stands at a method's end -/
def ab_En (p : Program) (l : Launch) (e : Env) (R : Room) (s : State) (m : MethodId) (args : Array Value) (below : List Frame) (meth : Method) (c : Code) (Q : State → Prop) (D : va_G) (cl : List vw_C) (K : ab_Q) (md : ab_D) (ad0 : Nat → Nat) (cs0 : List ab_C) (A : Nat → Prop) (v : Option Value) (cs2 : List ab_C) : Prop :=
  ∀ (pc : Nat) (ins : Instr) (len : Nat) (st : List Value) (ad : Nat → Nat) (H : Heap) (locs : List Loc) (ls : Array Slot), decode md.2.1 pc = .ok (ins, len) → (ab_ln ins = len ∨ ab_ln ins = 0) → ab_re md.2.2.2.1 ins st = some v → (cs2.length = cs0.length → ad = ad0) → (∀ k, k < cs0.length ∨ 1000000 ≤ k → ad k = ad0 k) →
    va_P D cl (ab_w K ad 0 cs2) H → va_D A (ab_w K ad 0 cs2) → va_S A s.heap H locs → W p l e R s m args below meth c H locs (cs2.length - cs0.length) (ab_sz cs2 - ab_sz cs0) Q (F0 m pc ls (st.map (ab_v ad)))
set_option maxHeartbeats 8000000 in
theorem ab_fr_W {call : Nat → List Value → List ab_C → Option (Option Value × List ab_C)} {cs0 cs2 : List ab_C} {ad0 : Nat → Nat} {v : Option Value} {R : Room} {Q : State → Prop} {A : Nat → Prop}
    (hx : p.tables.exec = Jvm.exec) (hb : c.code = md.2.1) (hml : c.maxLocals = md.2.2.1) (hown : s.vm.findClass md.1.cls = some m.cls) (hI : md.2.2.2.2.2.2.1 = true → meth.name = "<init>") (hts : ∀ w ∈ Ts, w.before args s = true) (hWs : GoodIn Ts Ws) (hG : ab_cg cl Ts G) (hcq : ∃ T N ty, G Z.1 = some (Cq.1, T, N, ty)) (hZ : Z.2 = Cq.2.2.1) (hWK : ab_WK D cl K Cq s)
    (howG : ∀ C T N ty, G md.2.2.2.2.1 = some (C, T, N, ty) → C = md.1.cls) (hmd : ∀ (pc : Nat) (ins : Instr) (len : Nat) (k : ab_K) (ps : List Nat), ab_at md pc = some (ins, len, k, ps) → decode md.2.1 pc = .ok (ins, len) ∧ (∀ w ∈ ab_wd Cq.2.2.2 M G md.1.cls ins k, w ∈ Ts ∧ w ∈ Ws) ∧ ab_nd Cq.2.1 Cq.2.2.2 M md.1.cls ins k)
    (hokA : ∀ (y : Nat) (my : ab_D), M[y]? = some my → ab_ok Cq.2.1 Cq.2.2.2 M G Ws my)
    (hle : ∀ (y : Nat) (As : List Value) (cs : List ab_C) (v : Option Value) (cs2 : List ab_C), call y As cs = some (v, cs2) → cs.length ≤ cs2.length ∧ ab_sz cs ≤ ab_sz cs2 ∧ ab_nr v)
    (IH : ∀ (y : Nat) (As : List Value) (cs : List ab_C) (v : Option Value) (cs2 : List ab_C) (my : ab_D), M[y]? = some my → call y As cs = some (v, cs2) → ab_Mt l D cl K Cq Ws my d As cs v cs2)
    (hA : ∀ q, s.heap.size ≤ q → A q) (hTT : ab_TT Cq.2.2.1 Cq.2.2.2 ad0 A s s.heap) (hRc : cs2.length - cs0.length ≤ R.cells) (hRs : ab_sz cs2 - ab_sz cs0 ≤ R.slots) (hRf : d + 1 ≤ R.frames) (hRl : 100 * (d + 1) ≤ R.locals)
    (hend : ab_En p l e R s m args below meth c Q D cl K md ad0 cs0 A v cs2) :
    ∀ (f pc : Nat) (L : ab_L) (st : List Value) (cs : List ab_C), ab_fr M G Z call md f (pc, L, st, cs) = some (v, cs2) → cs0.length ≤ cs.length → ab_sz cs0 ≤ ab_sz cs → ∀ (ad : Nat → Nat) (H : Heap) (locs : List Loc) (ls : Array Slot), (cs.length = cs0.length → ad = ad0) → (∀ k, k < cs0.length ∨ 1000000 ≤ k → ad k = ad0 k) →
      va_P D cl (ab_w K ad 0 cs) H → va_D A (ab_w K ad 0 cs) → va_S A s.heap H locs → ab_h ad ls md.2.2.1 L →
      W p l e R s m args below meth c H locs (cs.length - cs0.length) (ab_sz cs - ab_sz cs0) Q (F0 m pc ls (st.map (ab_v ad))) := by
  have hR : 1 ≤ R.frames ∧ 100 ≤ R.locals := ⟨by omega, by omega⟩
  intro f
  induction f with
  | zero => intro pc L st cs h; cases h
  | succ f ih =>
    intro pc L st cs h hcs hsz ad H locs ls ha1 ha2 hP hD hS hL
    have hend2 := ab_fr_le hle (f + 1) pc L st cs v cs2 h
    have hmls : c.maxLocals = ls.size := hml.trans hL.2.1.symm
    have hTa : ab_TT Cq.2.2.1 Cq.2.2.2 ad A s s.heap := hTT.ad (fun k hk => ha2 k (Or.inr hk))
    unfold ab_fr at h
    split at h
    · cases h
    · rename_i ins len k ps hat
      obtain ⟨hdg, hwd, hnd⟩ := hmd pc ins len k ps hat
      have hW : ∀ w ∈ ab_wd Cq.2.2.2 M G md.1.cls ins k, w.before args s = true := fun w q => hts w (hwd w q).1
      split at h
      · cases h
      · rename_i hln
        have hln := Classical.not_not.mp hln
        split at h
        · rename_i hp
          exact ab_pu_ok hx hb hdg hln hp ad (ih _ _ _ _ h hcs hsz ad H locs ls ha1 ha2 hP hD hS hL)
        · split at h
          · rename_i hp
            exact ab_lo_ok hx hb hdg hln hp ad hL (fun ls' hl => ih _ _ _ _ h hcs hsz ad H locs ls' ha1 ha2 hP hD hS hl)
          · split at h
            · rename_i st2 cs3 hp
              have hz := ab_hp_sz hp
              refine ab_hp_ok hx hb hmls hown hts hG hcq (by rw [hZ]; exact hTa) howG hI hWK.1 hR (by omega) (by omega) hdg hln hW hnd.2 hp hP hD hS (fun H1 locs1 p1 d1 s1 => ?_)
              have h1 := ih _ _ _ _ h (by rw [hz.1]; exact hcs) (by rw [hz.2]; exact hsz) ad H1 locs1 ls (by rw [hz.1]; exact ha1) ha2 p1 d1 s1 hL
              rw [hz.1, hz.2] at h1
              exact h1
            · split at h
              · rename_i v1 hv
                cases h
                exact hend pc ins len st ad H locs ls hdg hln hv ha1 ha2 hP hD hS
              · split at h
                · rename_i st2 c1 hp
                  split at h
                  · rename_i hf
                    obtain ⟨hnn, hf⟩ := hf
                    rw [Bool.and_eq_true, Bool.and_eq_true] at hf
                    obtain ⟨hf1, hf2, hf3⟩ := hf
                    have h0 := ab_fr_le hle f _ _ _ _ v cs2 h
                    rw [List.length_append, ab_sz_app] at h0
                    have hl1 : [c1].length = 1 := rfl
                    refine ab_nw_ok hx hb hown hts hG hcq hWK.1 hWK.2.1 hdg hln hW hp hf3 hnn hA (by omega) (by omega) hP hD hS (fun q H1 p1 d1 s1 => ?_)
                    have h1 := ih _ _ _ _ h (by rw [List.length_append]; omega) (by rw [ab_sz_app]; omega) (ab_nx ad cs.length q) H1 locs ls (fun z => by rw [List.length_append] at z; omega) (fun j hj => (ab_nx_old ad hnn q j (by omega)).trans (ha2 j hj)) p1 d1 s1 (ab_h_ext (ab_nx_old ad hnn q) hL hf1)
                    rw [List.length_append, ab_sz_app, hl1, show cs.length + 1 - cs0.length = cs.length - cs0.length + 1 by omega, show ab_sz cs + ab_sc c1 - ab_sz cs0 = ab_sz cs - ab_sz cs0 + ab_sc c1 by omega, List.map_cons, ab_st_ext (ab_nx_old ad hnn q) hf2] at h1
                    rw [show ab_v (ab_nx ad cs.length q) (.ref cs.length) = .ref q by show Value.ref (ab_nx ad cs.length q cs.length) = _; rw [ab_nx_new]] at h1
                    exact h1
                  · cases h
                · split at h
                  · cases h
                  · rename_i y As r hca
                    split at h
                    · cases h
                    · rename_i my hmy
                      split at h
                      · rename_i hc
                        obtain ⟨c1, c2, c3, c4⟩ := hc
                        split at h
                        · cases h
                        · rename_i v1 cs3 hcl
                          split at h
                          · rename_i hf
                            have h0 := ab_fr_le hle f _ _ _ _ v cs2 h
                            have h3 := hle _ _ _ _ _ hcl
                            refine ab_ca_ok hx hb hml hown hts hWs hG hWK hTa hdg hln (fun w q => (hwd w q).2) hnd hca hmy (hokA y my hmy) c1 c2 c3 c4 (IH y As cs v1 cs3 my hmy hcl) hRf hRl hP hD hS hA hL (by omega) (by omega) (fun u H1 locs1 u1 u2 p1 d1 s1 => ?_)
                            have hLr : ab_h u ls md.2.2.1 L ∧ r.map (ab_v u) = r.map (ab_v ad) := by
                              rcases hf with hf | hf
                              · rw [u1 hf]
                                exact ⟨hL, rfl⟩
                              · rw [Bool.and_eq_true] at hf
                                exact ⟨ab_h_ext u2 hL hf.1, ab_st_ext u2 hf.2⟩
                            have h1 := ih _ _ _ _ h (by omega) (by omega) u H1 locs1 ls (fun z => (u1 (by omega)).trans (ha1 (by omega))) (fun j hj => (u2 j (by omega)).trans (ha2 j hj)) p1 d1 s1 hLr.1
                            rw [List.map_append, h3.2.2 u, hLr.2, show cs3.length - cs0.length = cs.length - cs0.length + (cs3.length - cs.length) by omega, show ab_sz cs3 - ab_sz cs0 = ab_sz cs - ab_sz cs0 + (ab_sz cs3 - ab_sz cs) by omega] at h1
                            exact h1
                          · cases h
                      · cases h
theorem ab_end {cs0 cs2 : List ab_C} {ad0 : Nat → Nat} {v : Option Value} {d : Nat} (hx : p.tables.exec = Jvm.exec) (hb : c.code = md.2.1) (hr : meth.sig.returnType = md.2.2.2.1) (hlocks : meth.locks = false) (hWK : ab_WK D cl K Cq s) :
    ab_En p l e { frames := d + 1, cells := cs2.length - cs0.length, slots := ab_sz cs2 - ab_sz cs0, locals := 100 * (d + 1) } s m args below meth c (MQ below (ab_Qc D cl K Cq ad0 cs0 s.heap.size v cs2) args s (cs2.length - cs0.length) (ab_sz cs2 - ab_sz cs0) (va_A (ab_w K ad0 0 cs0) s.heap.size)) D cl K md ad0 cs0 (va_A (ab_w K ad0 0 cs0) s.heap.size) v cs2 := by
  intro pc ins len st ad H locs ls hdg hln hv ha1 ha2 hP hD hS
  have hq : ∀ t : State, t.heap = H → s.WarmedH t.vm → ab_Qc D cl K Cq ad0 cs0 s.heap.size v cs2 args s (.returned v) t := fun t ht hWm => ⟨⟨rfl, ad, ha1, ha2, by rw [ht]; exact hP, hWK.moved hWm, hD⟩, hS.F ht⟩
  unfold ab_re at hv
  split at hv
  · split at hv
    · obtain rfl := ab_len (n := 0) rfl hln
      split at hv
      · rename_i hret
        cases hv
        exact W.iret hx hb (hr.trans hret) hq hS.2.2 hdg
      · rename_i hret
        split at hv
        · rename_i hz
          cases hv
          exact W.zret hx hb (hr.trans hret) (by rcases hz with rfl | rfl <;> decide) hq hS.2.2 hdg
        · cases hv
      · cases hv
    · cases hv
  · split at hv
    · obtain rfl := ab_len (n := 0) rfl hln
      split at hv
      · rename_i hret
        cases hv
        exact W.lret hx hb (hr.trans hret) hq hS.2.2 hdg
      · cases hv
    · cases hv
  · split at hv
    · obtain rfl := ab_len (n := 0) rfl hln
      split at hv
      · rename_i hret
        cases hv
        exact W.vret hx hb (hr.trans hret) hq hS.2.2 hdg
      · cases hv
    · cases hv
  · cases hv
end ABS6
set_option maxHeartbeats 4000000 in
/-- the machine of worlds gives contracts -/
theorem ab_run_ok {l : Launch} {D : va_G} {cl : List vw_C} {K : ab_Q} {Cq : ab_X} {Ws : List Jvm.Cond} {G : Nat → Option ab_T} {M : List ab_D} {Z : ab_Z} (hWs : GoodIn Ws Ws) (hG : ab_cg cl Ws G) (hcq : ∃ T N ty, G Z.1 = some (Cq.1, T, N, ty)) (hZ : Z.2 = Cq.2.2.1) (hokA : ∀ (y : Nat) (my : ab_D), M[y]? = some my → ab_ok Cq.2.1 Cq.2.2.2 M G Ws my) :
    ∀ (d f y : Nat) (As : List Value) (cs : List ab_C) (v : Option Value) (cs2 : List ab_C) (my : ab_D), M[y]? = some my → ab_run M G Z d f y As cs = some (v, cs2) → ab_Mt l D cl K Cq Ws my d As cs v cs2 := by
  intro d
  induction d with
  | zero => intro f y As cs v cs2 my hmy h; cases h
  | succ d ih =>
    intro f y As cs v cs2 md hmd h ad sz
    unfold ab_run at h
    rw [hmd] at h
    dsimp only at h
    split at h
    · rename_i hlen
      have hok := hokA y md hmd
      refine Met.ofW (cc := md.2.1) (maxL := md.2.2.1) (ret := md.2.2.2.1) hok.1 rfl ?_
      intro p e s m args below meth c s₁ B hml hv
      obtain ⟨rfl, hsz, hP, hWK, hD0, hTT⟩ := hv
      have hts := atoms_spec (ws := .code md.1 md.2.1 md.2.2.1 md.2.2.2.1 :: Ws) B.pre
      have hown : s.vm.findClass md.1.cls = some m.cls := findClass_of_methodNamed B.named
      have hI : md.2.2.2.2.2.2.1 = true → meth.name = "<init>" := fun q => (name_of_methodNamed B.named B.method).1.trans (hok.2.2.2.2.1 q)
      subst hsz
      have hD := hD0.self (sz := s.heap.size)
      rw [lg_entry_eq]
      have h1 := ab_fr_W (cs0 := cs) (ad0 := ad) (below := below) (l := l) (e := e) (R := { frames := d + 1, cells := cs2.length - cs.length, slots := ab_sz cs2 - ab_sz cs, locals := 100 * (d + 1) }) B.exec B.bytes hml hown hI (fun w hw => hts w (List.mem_cons_of_mem _ hw)) hWs hG hcq hZ hWK hok.2.2.2.2.2.1 (fun pc ins len k ps hat => ⟨(hok.2.2.2.2.2.2 pc ins len k ps hat).1, fun w q => ⟨(hok.2.2.2.2.2.2 pc ins len k ps hat).2.1 w q, (hok.2.2.2.2.2.2 pc ins len k ps hat).2.1 w q⟩, (hok.2.2.2.2.2.2 pc ins len k ps hat).2.2⟩) hokA (fun y As cs v cs2 hc => ab_run_le d f y As cs v cs2 hc) (fun y As cs v cs2 my hmy hc => ih f y As cs v cs2 my hmy hc) (fun q h => Or.inr h) hTT (Nat.le_refl _) (Nat.le_refl _) (Nat.le_refl _) (Nat.le_refl _) (ab_end B.exec B.bytes B.returns B.notSynchronized hWK) f 0 _ [] cs h (Nat.le_refl _) (Nat.le_refl _) ad s.heap [] _ (fun _ => rfl) (fun _ _ => rfl) hP hD va_S.rf (ab_h_entry ad As hlen)
      rw [Nat.sub_self, Nat.sub_self] at h1
      exact h1
    · cases h
end
