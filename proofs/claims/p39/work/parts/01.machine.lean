/-! A machine of worlds (ab_): what a method does to a list of cells, as a function. References are places in that list. -/
abbrev ab_C : Type := List Int32 ⊕ (List Int64 ⊕ (List (Option Nat) ⊕ (Nat × List Value)))
abbrev ab_L : Type := List (Option Value)
abbrev ab_S : Type := Nat × ab_L × List Value × List ab_C
abbrev ab_K : Type := Nat × Nat × Nat
abbrev ab_I : Type := Instr × Nat × ab_K × List Nat
/-- a method: its name, bytes, locals, answer, class, number of arguments, whether it makes objects, code -/
abbrev ab_D : Type := MethodName × ByteArray × Nat × Option FieldType × Nat × Nat × Bool × List (List (Option ab_I))
/-- a class: its name, fields, how many, their types -/
abbrev ab_T : Type := String × u_T × Nat × (Nat → FieldType)
abbrev ab_Q : Type := ClassId × ClassId × ClassId
def ab_v (ad : Nat → Nat) : Value → Value
  | .ref k => .ref (ad k)
  | v => v
def ab_e (K : ab_Q) (ad : Nat → Nat) : ab_C → va_E
  | .inl l => .inl (K.1, l.length, .inl (fun j => l.getD j 0))
  | .inr (.inl l) => .inl (K.2.1, l.length, .inr (.inl (fun j => l.getD j 0)))
  | .inr (.inr (.inl l)) => .inl (K.2.2, l.length, .inr (.inr (.inr (.inr (fun j => (l.getD j none).map ad)))))
  | .inr (.inr (.inr o)) => .inr (o.1, o.2.map (ab_v ad))
def ab_w (K : ab_Q) (ad : Nat → Nat) : Nat → List ab_C → va_W
  | _, [] => []
  | n, c :: r => (ad n, ab_e K ad c) :: ab_w K ad (n + 1) r
def ab_sc : ab_C → Nat
  | .inl l => l.length
  | .inr (.inl l) => l.length
  | .inr (.inr (.inl l)) => l.length
  | .inr (.inr (.inr o)) => o.2.length
def ab_sz (cs : List ab_C) : Nat := (cs.map ab_sc).sum
-- references are places that are there
def ab_fv (n : Nat) : Value → Bool
  | .ref k => decide (k < n ∨ 1000000 ≤ k)
  | _ => true
def ab_fo (n : Nat) : Option Value → Bool
  | some v => ab_fv n v
  | none => true
def ab_fc (n : Nat) : ab_C → Bool
  | .inl _ => true
  | .inr (.inl _) => true
  | .inr (.inr (.inl l)) => l.all (fun o => match o with | some k => decide (k < n) | none => true)
  | .inr (.inr (.inr o)) => o.2.all (ab_fv n)
-- steps that touch the stack alone
def ab_tg (pc : Nat) (off : Int) : Option Nat := match (pc : Int) + off with
  | .ofNat t => some t
  | .negSucc _ => none
def ab_cn (c : ClassFile.Cond) (x y : Int32) : Bool := match c with
  | .eq => decide (x = y)
  | .ne => decide (¬ x = y)
  | .lt => decide (x < y)
  | .ge => decide (y ≤ x)
  | .gt => decide (y < x)
  | .le => decide (x ≤ y)
def ab_i2 (ins : Instr) (x y : Int32) : Option Int32 := match ins with
  | .iadd => some (x + y)
  | .isub => some (x - y)
  | .imul => some (x * y)
  | .iand => some (x &&& y)
  | .ior => some (x ||| y)
  | .ixor => some (x ^^^ y)
  | .idiv => if y = 0 then none else some (x / y)
  | .irem => if y = 0 then none else some (x - x / y * y)
  | .ishl => some (x <<< (y &&& 31))
  | .ishr => some (x >>> (y &&& 31))
  | .iushr => some (x.toUInt32 >>> (y.toUInt32 &&& Int32.toUInt32 31)).toInt32
  | _ => none
def ab_i1 (ins : Instr) (x : Int32) : Option Value := match ins with
  | .ineg => some (.int (-x))
  | .i2l => some (.long x.toInt64)
  | .i2b => some (.int x.toInt8.toInt32)
  | .i2s => some (.int x.toInt16.toInt32)
  | .i2c => some (.int (x.toUInt32 % 65536).toInt32)
  | _ => none
def ab_ln (ins : Instr) : Nat := match ins with
  | .tableswitch .. => 0
  | .lookupswitch .. => 0
  | .bipush _ | .iload _ | .aload _ | .lload _ | .istore _ | .astore _ | .lstore _ | .newarray _ | .ldc _ => 2
  | .sipush _ | .goto _ | .ifCond .. | .if_icmp .. | .iinc .. | .getfield _ | .putfield _ | .getstatic _ | .invokevirtual _ | .invokestatic _ | .invokespecial _ | .new _ | .anewarray _ | .ldc_w _ | .ldc2_w _ => 3
  | _ => 1
def ab_pu (ins : Instr) (pc : Nat) (st : List Value) : Option (Nat × List Value) := match ins with
  | .iconst n => some (pc + 1, .int (Int32.ofInt n) :: st)
  | .bipush n => some (pc + 2, .int (Int8.ofInt n).toInt32 :: st)
  | .sipush n => some (pc + 3, .int (Int16.ofInt n).toInt32 :: st)
  | .lconst n => some (pc + 1, .long (Int64.ofNat n) :: st)
  | .dup => match st with
    | v :: r => if v.category = 1 then some (pc + 1, v :: v :: r) else none
    | _ => none
  | .pop => match st with
    | v :: r => if v.category = 1 then some (pc + 1, r) else none
    | _ => none
  | .pop2 => match st with
    | v :: r => if v.category = 2 then some (pc + 1, r) else none
    | _ => none
  | .dup2 => match st with
    | v :: w :: r => if v.category = 1 ∧ w.category = 1 then some (pc + 1, v :: w :: v :: w :: r) else none
    | _ => none
  | .dup_x1 => match st with
    | v :: w :: r => if v.category = 1 ∧ w.category = 1 then some (pc + 1, v :: w :: v :: r) else none
    | _ => none
  | .goto off => match ab_tg pc off with
    | some t => some (t, st)
    | none => none
  | .ifCond c off => match st with
    | .int x :: r => match ab_tg pc off with
      | some t => some (cond (ab_cn c x 0) t (pc + 3), r)
      | none => none
    | _ => none
  | .if_icmp c off => match st with
    | .int y :: .int x :: r => match ab_tg pc off with
      | some t => some (cond (ab_cn c x y) t (pc + 3), r)
      | none => none
    | _ => none
  | .l2i => match st with
    | .long x :: r => some (pc + 1, .int x.toInt32 :: r)
    | _ => none
  | .lshl => match st with
    | .int y :: .long x :: r => some (pc + 1, .long (x <<< (y.toInt64 &&& 63)) :: r)
    | _ => none
  | .lor => match st with
    | .long y :: .long x :: r => some (pc + 1, .long (x ||| y) :: r)
    | _ => none
  | .land => match st with
    | .long y :: .long x :: r => some (pc + 1, .long (x &&& y) :: r)
    | _ => none
  | .lcmp => match st with
    | .long y :: .long x :: r => some (pc + 1, .int (lg_cmp x y) :: r)
    | _ => none
  | .tableswitch dflt lo hi offs => match st with
    | .int x :: r => if x.toInt < lo ∨ hi < x.toInt then (match ab_tg pc dflt with
        | some t => some (t, r)
        | none => none) else (match offs[(x.toInt - lo).toNat]? with
        | some off => (match ab_tg pc off with
          | some t => some (t, r)
          | none => none)
        | none => none)
    | _ => none
  | .lookupswitch dflt ps => match st with
    | .int x :: r => if (ps.toList.zip (ps.toList.drop 1)).all (fun (a, next) => a.1 < next.1) = true then (match ab_tg pc (Op.lookupswitch.offset ps.toList dflt x.toInt) with
        | some t => some (t, r)
        | none => none) else none
    | _ => none
  | ins => match st with
    | .int y :: r => match ab_i1 ins y with
      | some z => some (pc + 1, z :: r)
      | none => match r with
        | .int x :: r => match ab_i2 ins x y with
          | some z => some (pc + 1, .int z :: r)
          | none => none
        | _ => none
    | _ => none
-- steps that touch stack and locals
def ab_c2 : Option Value → Bool
  | some (.long _) => true
  | some (.double _) => true
  | _ => false
def ab_lg (L : ab_L) (i : Nat) : Option Value := match L[i]? with
  | some o => o
  | none => none
def ab_l1 (L : ab_L) (i : Nat) (v : Value) : Option ab_L := if i < L.length ∧ (0 < i → ab_c2 (ab_lg L (i - 1)) = false) then some (L.set i (some v)) else none
def ab_l2 (L : ab_L) (i : Nat) (v : Value) : Option ab_L := if i + 1 < L.length ∧ (0 < i → ab_c2 (ab_lg L (i - 1)) = false) then some ((L.set i (some v)).set (i + 1) none) else none
def ab_ld (t : Nat) (L : ab_L) (i : Nat) : Option Value := match t, ab_lg L i with
  | 0, some (.int x) => some (.int x)
  | 1, some (.long x) => some (.long x)
  | 2, some (.ref x) => some (.ref x)
  | _, _ => none
def ab_so (t : Nat) (L : ab_L) (i : Nat) (v : Value) : Option ab_L := match t, v with
  | 0, .int x => ab_l1 L i (.int x)
  | 1, .long x => ab_l2 L i (.long x)
  | 2, .ref x => ab_l1 L i (.ref x)
  | _, _ => none
def ab_lk (ins : Instr) : Option (Bool × Nat × Nat) := match ins with
  | .iload i => some (false, 0, i)
  | .iload_n i => some (false, 0, i.val)
  | .lload i => some (false, 1, i)
  | .lload_n i => some (false, 1, i.val)
  | .aload i => some (false, 2, i)
  | .aload_n i => some (false, 2, i.val)
  | .istore i => some (true, 0, i)
  | .istore_n i => some (true, 0, i.val)
  | .lstore i => some (true, 1, i)
  | .lstore_n i => some (true, 1, i.val)
  | .astore i => some (true, 2, i)
  | .astore_n i => some (true, 2, i.val)
  | _ => none
def ab_lo (ins : Instr) (L : ab_L) (st : List Value) : Option (ab_L × List Value) := match ab_lk ins with
  | some (false, t, i) => match ab_ld t L i with
    | some v => some (L, v :: st)
    | none => none
  | some (true, t, i) => match st with
    | v :: r => match ab_so t L i v with
      | some L2 => some (L2, r)
      | none => none
    | _ => none
  | none => match ins with
    | .iinc i n => match ab_lg L i with
      | some (.int x) => match ab_l1 L i (.int (x + Int32.ofInt n)) with
        | some L2 => some (L2, st)
        | none => none
      | _ => none
    | _ => none
/-- the class whose objects the arrays of references hold; arrays that stay as they are -/
abbrev ab_Z : Type := Nat × List (List Int32)
-- steps that touch the world, none of whose cells is new
def ab_ft (ty : FieldType) (v : Value) : Bool := match ty, v with
  | .int, .int _ => true
  | .long, .long _ => true
  | .boolean, .int x => x == 0 || x == 1
  | .object _, .ref _ => true
  | .array _, .ref _ => true
  | .object _, .null => true
  | .array _, .null => true
  | _, _ => false
def ab_cp {α : Type} (f g : List α) (sp dp n : Nat) : List α := g.take dp ++ ((f.drop sp).take n ++ g.drop (dp + n))
def ab_sm (st : List Value) : Nat := (st.map fun v => v.category).sum
def ab_vr (o : Option Nat) : Value := match o with
  | some k => .ref k
  | none => .null
def ab_gf (G : Nat → Option ab_T) (ci f : Nat) (st : List Value) (cs : List ab_C) : Option (List Value × List ab_C) := match st with
  | .ref a :: r => match cs[a]?, G ci with
    | some (.inr (.inr (.inr (ci2, fs)))), some (_, _, N, _) => if ci2 = ci ∧ f < N then (match fs[f]? with
      | some v => some (v :: r, cs)
      | none => none) else none
    | _, _ => none
  | _ => none
def ab_pf (G : Nat → Option ab_T) (own : Nat) (isI : Bool) (ci f : Nat) (st : List Value) (cs : List ab_C) : Option (List Value × List ab_C) := match st with
  | v :: .ref a :: r => match cs[a]?, G ci with
    | some (.inr (.inr (.inr (ci2, fs)))), some (_, T, N, ty) => if ci2 = ci ∧ f < N ∧ f < fs.length ∧ ab_ft (ty f) v = true ∧ ((T f).2.2.2 = true → isI = true ∧ ci = own) then some (r, cs.set a (.inr (.inr (.inr (ci2, fs.set f v))))) else none
    | _, _ => none
  | _ => none
def ab_ia (Tb : List (List Int32)) (st : List Value) (cs : List ab_C) : Option (List Value × List ab_C) := match st with
  | .int i :: .ref a :: r => match cs[a]? with
    | some (.inl l) => if i < 0 ∨ l.length ≤ i.toNatClampNeg then none else some (.int (l.getD i.toNatClampNeg 0) :: r, cs)
    | none => match Tb[a - 1000000]? with
      | some l => if a < 1000000 ∨ i < 0 ∨ l.length ≤ i.toNatClampNeg then none else some (.int (l.getD i.toNatClampNeg 0) :: r, cs)
      | none => none
    | _ => none
  | _ => none
def ab_la (st : List Value) (cs : List ab_C) : Option (List Value × List ab_C) := match st with
  | .int i :: .ref a :: r => match cs[a]? with
    | some (.inr (.inl l)) => if i < 0 ∨ l.length ≤ i.toNatClampNeg then none else some (.long (l.getD i.toNatClampNeg 0) :: r, cs)
    | _ => none
  | _ => none
def ab_aa (st : List Value) (cs : List ab_C) : Option (List Value × List ab_C) := match st with
  | .int i :: .ref a :: r => match cs[a]? with
    | some (.inr (.inr (.inl l))) => if i < 0 ∨ l.length ≤ i.toNatClampNeg then none else some (ab_vr (l.getD i.toNatClampNeg none) :: r, cs)
    | _ => none
  | _ => none
def ab_is (st : List Value) (cs : List ab_C) : Option (List Value × List ab_C) := match st with
  | .int x :: .int i :: .ref a :: r => match cs[a]? with
    | some (.inl l) => if i < 0 ∨ l.length ≤ i.toNatClampNeg then none else some (r, cs.set a (.inl (l.set i.toNatClampNeg x)))
    | _ => none
  | _ => none
def ab_lst (st : List Value) (cs : List ab_C) : Option (List Value × List ab_C) := match st with
  | .long x :: .int i :: .ref a :: r => match cs[a]? with
    | some (.inr (.inl l)) => if i < 0 ∨ l.length ≤ i.toNatClampNeg then none else some (r, cs.set a (.inr (.inl (l.set i.toNatClampNeg x))))
    | _ => none
  | _ => none
def ab_as (cq : Nat) (st : List Value) (cs : List ab_C) : Option (List Value × List ab_C) := match st with
  | .ref v :: .int i :: .ref a :: r => match cs[a]?, cs[v]? with
    | some (.inr (.inr (.inl l))), some (.inr (.inr (.inr (ci, _)))) => if ci = cq then (if i < 0 ∨ l.length ≤ i.toNatClampNeg then none else some (r, cs.set a (.inr (.inr (.inl (l.set i.toNatClampNeg (some v))))))) else none
    | _, _ => none
  | _ => none
def ab_al (Tb : List (List Int32)) (st : List Value) (cs : List ab_C) : Option (List Value × List ab_C) := match st with
  | .ref a :: r => match cs[a]? with
    | some (.inl l) => some (.int (Int32.ofNat l.length) :: r, cs)
    | some (.inr (.inl l)) => some (.int (Int32.ofNat l.length) :: r, cs)
    | some (.inr (.inr (.inl l))) => some (.int (Int32.ofNat l.length) :: r, cs)
    | none => match Tb[a - 1000000]? with
      | some l => if a < 1000000 then none else some (.int (Int32.ofNat l.length) :: r, cs)
      | none => none
    | _ => none
  | _ => none
def ab_cy (st : List Value) (cs : List ab_C) : Option (List Value × List ab_C) := match st with
  | .int n :: .int dp :: .ref a :: .int sp :: .ref a0 :: r => if n < 0 ∨ dp < 0 ∨ sp < 0 ∨ 8 < ab_sm r then none else (match cs[a0]?, cs[a]? with
    | some (.inl f), some (.inl g) => if sp.toNatClampNeg + n.toNatClampNeg ≤ f.length ∧ dp.toNatClampNeg + n.toNatClampNeg ≤ g.length then some (r, cs.set a (.inl (ab_cp f g sp.toNatClampNeg dp.toNatClampNeg n.toNatClampNeg))) else none
    | some (.inr (.inl f)), some (.inr (.inl g)) => if sp.toNatClampNeg + n.toNatClampNeg ≤ f.length ∧ dp.toNatClampNeg + n.toNatClampNeg ≤ g.length then some (r, cs.set a (.inr (.inl (ab_cp f g sp.toNatClampNeg dp.toNatClampNeg n.toNatClampNeg)))) else none
    | _, _ => none)
  | _ => none
def ab_mx (st : List Value) (cs : List ab_C) : Option (List Value × List ab_C) := match st with
  | .int y :: .int x :: r => if ab_sm r ≤ 8 then some (.int (if x < y then y else x) :: r, cs) else none
  | _ => none
def ab_mn (st : List Value) (cs : List ab_C) : Option (List Value × List ab_C) := match st with
  | .int y :: .int x :: r => if ab_sm r ≤ 8 then some (.int (if y < x then y else x) :: r, cs) else none
  | _ => none
def ab_oi (st : List Value) (cs : List ab_C) : Option (List Value × List ab_C) := match st with
  | .ref _ :: r => if ab_sm r ≤ 8 then some (r, cs) else none
  | _ => none
/-- a text's length, a text's letter -/
def ab_sl (st : List Value) (cs : List ab_C) : Option (List Value × List ab_C) := match st with
  | .ref a :: r => if 2000000 ≤ a ∧ a < 2000007 ∧ ab_sm r ≤ 8 then some (.int (Int32.ofNat (tx_N.getD (a - 2000000) 0)) :: r, cs) else none
  | _ => none
def ab_sh (st : List Value) (cs : List ab_C) : Option (List Value × List ab_C) := match st with
  | .int x :: .ref a :: r => if 2000000 ≤ a ∧ a < 2000007 ∧ ab_sm r ≤ 8 ∧ ¬ (x < 0 ∨ tx_N.getD (a - 2000000) 0 ≤ x.toNatClampNeg) then some (.int (tx_V (a - 2000000) x.toNatClampNeg) :: r, cs) else none
  | _ => none
def ab_hp (G : Nat → Option ab_T) (Z : ab_Z) (own : Nat) (isI : Bool) (ins : Instr) (k : ab_K) (st : List Value) (cs : List ab_C) : Option (List Value × List ab_C) := match ins with
  | .getfield _ => if k.1 = 1 then ab_gf G k.2.1 k.2.2 st cs else none
  | .putfield _ => if k.1 = 1 then ab_pf G own isI k.2.1 k.2.2 st cs else none
  | .iaload => ab_ia Z.2 st cs
  | .laload => ab_la st cs
  | .aaload => ab_aa st cs
  | .iastore => ab_is st cs
  | .lastore => ab_lst st cs
  | .aastore => ab_as Z.1 st cs
  | .arraylength => ab_al Z.2 st cs
  | .invokestatic _ => if k.1 = 7 then ab_mx st cs else if k.1 = 8 then ab_mn st cs else if k.1 = 9 then ab_cy st cs else none
  | .invokespecial _ => if k.1 = 6 then ab_oi st cs else none
  | .invokevirtual _ => if k.1 = 17 then ab_sl st cs else if k.1 = 18 then ab_sh st cs else none
  | .ldc _ => if k.1 = 10 then some (.int (Int32.ofNat k.2.1) :: st, cs) else if k.1 = 16 ∧ k.2.1 < 7 then some (.ref (2000000 + k.2.1) :: st, cs) else none
  | .ldc_w _ => if k.1 = 10 then some (.int (Int32.ofNat k.2.1) :: st, cs) else none
  | .ldc2_w _ => if k.1 = 11 then some (.long (Int64.ofNat k.2.1) :: st, cs) else none
  | .getstatic _ => if k.1 = 13 then some (.ref (1000000 + k.2.1) :: st, cs) else none
  | _ => none
-- new cells
def ab_df (ty : Nat → FieldType) (N : Nat) : List Value := (List.range N).map (fun j => defaultValue (ty j))
def ab_nw (G : Nat → Option ab_T) (cq : Nat) (ins : Instr) (k : ab_K) (st : List Value) : Option (List Value × ab_C) := match ins with
  | .new _ => if k.1 = 2 then (match G k.2.1 with
    | some (_, _, N, ty) => some (st, .inr (.inr (.inr (k.2.1, ab_df ty N))))
    | none => none) else none
  | .newarray ty => match st with
    | .int n :: r => if n < 0 ∨ 1000000 < n.toNatClampNeg then none else (match ty with
      | .int => some (r, .inl (List.replicate n.toNatClampNeg 0))
      | .long => some (r, .inr (.inl (List.replicate n.toNatClampNeg 0)))
      | _ => none)
    | _ => none
  | .anewarray _ => match st with
    | .int n :: r => if n < 0 ∨ 1000000 < n.toNatClampNeg ∨ ¬ k.1 = 12 ∨ ¬ k.2.1 = cq then none else some (r, .inr (.inr (.inl (List.replicate n.toNatClampNeg none))))
    | _ => none
  | _ => none
-- calls and ends
def ab_re (ret : Option FieldType) (ins : Instr) (st : List Value) : Option (Option Value) := match ins with
  | .ireturn => match st with
    | [.int x] => match ret with
      | some .int => some (some (.int x))
      | some .boolean => if x = 0 ∨ x = 1 then some (some (.int x)) else none
      | _ => none
    | _ => none
  | .lreturn => match st with
    | [.long x] => match ret with
      | some .long => some (some (.long x))
      | _ => none
    | _ => none
  | .return_ => match st with
    | [] => match ret with
      | none => some none
      | _ => none
    | _ => none
  | .areturn => match st with
    | [.ref x] => match ret with
      | some (.object _) => if 2000000 ≤ x then some (some (.ref x)) else none
      | _ => none
    | _ => none
  | _ => none
/-- a call: the callee, its arguments, the rest of the stack -/
def ab_ca (ins : Instr) (k : ab_K) (st : List Value) : Option (Nat × List Value × List Value) := match ins with
  | .invokevirtual _ => if k.1 = 3 ∧ k.2.2 < st.length then some (k.2.1, (st.take (k.2.2 + 1)).reverse, st.drop (k.2.2 + 1)) else none
  | .invokestatic _ => if k.1 = 4 ∧ k.2.2 ≤ st.length then some (k.2.1, (st.take k.2.2).reverse, st.drop k.2.2) else none
  | .invokespecial _ => if (k.1 = 5 ∨ k.1 = 15) ∧ k.2.2 < st.length then some (k.2.1, (st.take (k.2.2 + 1)).reverse, st.drop (k.2.2 + 1)) else none
  | _ => none
def ab_ag : List Value → ab_L
  | [] => []
  | v :: r => if v.category = 2 then some v :: none :: ab_ag r else some v :: ab_ag r
def ab_at (md : ab_D) (pc : Nat) : Option ab_I := match md.2.2.2.2.2.2.2[pc / 16]? with
  | some row => match row[pc % 16]? with
    | some o => o
    | none => none
  | none => none
/-- the receiver of a virtual call is of the callee's class -/
def ab_rv (G : Nat → Option ab_T) (own : Nat) (As : List Value) (cs : List ab_C) : Bool := match As with
  | .ref a :: _ => match cs[a]? with
    | some (.inr (.inr (.inr (ci, _)))) => decide (ci = own) && (G own).isSome
    | _ => false
  | _ => false
def ab_rf (As : List Value) : Bool := match As with
  | .ref _ :: _ => true
  | _ => false
def ab_fr (M : List ab_D) (G : Nat → Option ab_T) (Z : ab_Z) (call : Nat → List Value → List ab_C → Option (Option Value × List ab_C)) (md : ab_D) : Nat → ab_S → Option (Option Value × List ab_C)
  | 0, _ => none
  | f + 1, (pc, L, st, cs) => match ab_at md pc with
    | none => none
    | some (ins, len, k, _) => if ¬ (ab_ln ins = len ∨ ab_ln ins = 0) then none else
      match ab_pu ins pc st with
      | some (pc2, st2) => ab_fr M G Z call md f (pc2, L, st2, cs)
      | none => match ab_lo ins L st with
        | some (L2, st2) => ab_fr M G Z call md f (pc + len, L2, st2, cs)
        | none => match ab_hp G Z md.2.2.2.2.1 md.2.2.2.2.2.2.1 ins k st cs with
          | some (st2, cs2) => ab_fr M G Z call md f (pc + len, L, st2, cs2)
          | none => match ab_re md.2.2.2.1 ins st with
            | some v => some (v, cs)
            | none => match ab_nw G Z.1 ins k st with
              | some (st2, c) => if cs.length < 1000000 ∧ (L.all (ab_fo cs.length) && (st2.all (ab_fv cs.length) && cs.all (ab_fc cs.length))) = true then ab_fr M G Z call md f (pc + len, L, .ref cs.length :: st2, cs ++ [c]) else none
              | none => match ab_ca ins k st with
                | none => none
                | some (y, As, r) => match M[y]? with
                  | none => none
                  | some my => if ab_sm r ≤ 8 ∧ As.length = my.2.2.2.2.2.1 + cond (k.1 == 4) 0 1 ∧ (k.1 = 3 → ab_rv G my.2.2.2.2.1 As cs = true) ∧ (k.1 = 5 ∨ k.1 = 15 → my.2.2.2.2.2.2.1 = true ∧ my.2.2.2.1 = none ∧ ab_rf As = true) then
                    match call y As cs with
                    | none => none
                    | some (v, cs2) => if cs2.length = cs.length ∨ (L.all (ab_fo cs.length) && r.all (ab_fv cs.length)) = true then ab_fr M G Z call md f (pc + 3, L, v.toList ++ r, cs2) else none
                    else none
def ab_run (M : List ab_D) (G : Nat → Option ab_T) (Z : ab_Z) : Nat → Nat → Nat → List Value → List ab_C → Option (Option Value × List ab_C)
  | 0, _, _, _, _ => none
  | d + 1, f, y, As, cs => match M[y]? with
    | none => none
    | some md => if (ab_ag As).length ≤ md.2.2.1 then ab_fr M G Z (fun y As cs => ab_run M G Z d f y As cs) md f (0, ab_ag As ++ List.replicate (md.2.2.1 - (ab_ag As).length) none, [], cs) else none
