/-! one row an instruction, for symbolic runs; by program -/
section ER
variable {Z : ab_Z} {d : Nat} {md : ab_D} {pc : Nat} {L L2 : ab_L} {st r0 : List Value} {cs cs2 : List ab_C} {r : Option Value × List ab_C} {k : ab_K} {ps : List Nat}
theorem ab_pu_none {ins : Instr} {pc : Nat} (hk : ∀ st, ab_pu ins pc st = (match st with
    | .int y :: r => match ab_i1 ins y with
      | some z => some (pc + 1, z :: r)
      | none => match r with
        | .int x :: r => match ab_i2 ins x y with
          | some z => some (pc + 1, .int z :: r)
          | none => none
        | _ => none
    | _ => none)) (h1 : ∀ y, ab_i1 ins y = none) (h2 : ∀ x y, ab_i2 ins x y = none) (st : List Value) : ab_pu ins pc st = none := by
  rw [hk]
  split
  · rw [h1]
    dsimp only
    split
    · rw [h2]
    · rfl
  · rfl
theorem E_iload {i : Nat} {x : Int32} (h : ab_at md pc = some (.iload i, 2, k, ps)) (hg : ab_lg L i = some (.int x)) (K : Ef Z d md (pc + 2, L, .int x :: st, cs) r) : Ef Z d md (pc, L, st, cs) r :=
  Ef.lo h (Or.inl rfl) (ab_pu_none (fun _ => rfl) (fun _ => rfl) (fun _ _ => rfl) st) (by show (match ab_ld 0 L i with | some v => some (L, v :: st) | none => none) = _; unfold ab_ld; rw [hg] <;> rfl) K
theorem E_iload_n {i : Fin 4} {x : Int32} (h : ab_at md pc = some (.iload_n i, 1, k, ps)) (hg : ab_lg L i = some (.int x)) (K : Ef Z d md (pc + 1, L, .int x :: st, cs) r) : Ef Z d md (pc, L, st, cs) r :=
  Ef.lo h (Or.inl rfl) (ab_pu_none (fun _ => rfl) (fun _ => rfl) (fun _ _ => rfl) st) (by show (match ab_ld 0 L i.val with | some v => some (L, v :: st) | none => none) = _; unfold ab_ld; rw [hg] <;> rfl) K
theorem E_lload {i : Nat} {x : Int64} (h : ab_at md pc = some (.lload i, 2, k, ps)) (hg : ab_lg L i = some (.long x)) (K : Ef Z d md (pc + 2, L, .long x :: st, cs) r) : Ef Z d md (pc, L, st, cs) r :=
  Ef.lo h (Or.inl rfl) (ab_pu_none (fun _ => rfl) (fun _ => rfl) (fun _ _ => rfl) st) (by show (match ab_ld 1 L i with | some v => some (L, v :: st) | none => none) = _; unfold ab_ld; rw [hg] <;> rfl) K
theorem E_lload_n {i : Fin 4} {x : Int64} (h : ab_at md pc = some (.lload_n i, 1, k, ps)) (hg : ab_lg L i = some (.long x)) (K : Ef Z d md (pc + 1, L, .long x :: st, cs) r) : Ef Z d md (pc, L, st, cs) r :=
  Ef.lo h (Or.inl rfl) (ab_pu_none (fun _ => rfl) (fun _ => rfl) (fun _ _ => rfl) st) (by show (match ab_ld 1 L i.val with | some v => some (L, v :: st) | none => none) = _; unfold ab_ld; rw [hg] <;> rfl) K
theorem E_aload {i : Nat} {x : Nat} (h : ab_at md pc = some (.aload i, 2, k, ps)) (hg : ab_lg L i = some (.ref x)) (K : Ef Z d md (pc + 2, L, .ref x :: st, cs) r) : Ef Z d md (pc, L, st, cs) r :=
  Ef.lo h (Or.inl rfl) (ab_pu_none (fun _ => rfl) (fun _ => rfl) (fun _ _ => rfl) st) (by show (match ab_ld 2 L i with | some v => some (L, v :: st) | none => none) = _; unfold ab_ld; rw [hg] <;> rfl) K
theorem E_aload_n {i : Fin 4} {x : Nat} (h : ab_at md pc = some (.aload_n i, 1, k, ps)) (hg : ab_lg L i = some (.ref x)) (K : Ef Z d md (pc + 1, L, .ref x :: st, cs) r) : Ef Z d md (pc, L, st, cs) r :=
  Ef.lo h (Or.inl rfl) (ab_pu_none (fun _ => rfl) (fun _ => rfl) (fun _ _ => rfl) st) (by show (match ab_ld 2 L i.val with | some v => some (L, v :: st) | none => none) = _; unfold ab_ld; rw [hg] <;> rfl) K
theorem E_istore {i : Nat} {x : Int32} (h : ab_at md pc = some (.istore i, 2, k, ps)) (hs : ab_l1 L i (.int x) = some L2) (K : Ef Z d md (pc + 2, L2, st, cs) r) : Ef Z d md (pc, L, .int x :: st, cs) r :=
  Ef.lo h (Or.inl rfl) (ab_pu_none (fun _ => rfl) (fun _ => rfl) (fun _ _ => rfl) _) (by show (match ab_so 0 L i (.int x) with | some L2 => some (L2, st) | none => none) = _; rw [show ab_so 0 L i (.int x) = ab_l1 L i (.int x) from rfl, hs] <;> rfl) K
theorem E_istore_n {i : Fin 4} {x : Int32} (h : ab_at md pc = some (.istore_n i, 1, k, ps)) (hs : ab_l1 L i (.int x) = some L2) (K : Ef Z d md (pc + 1, L2, st, cs) r) : Ef Z d md (pc, L, .int x :: st, cs) r :=
  Ef.lo h (Or.inl rfl) (ab_pu_none (fun _ => rfl) (fun _ => rfl) (fun _ _ => rfl) _) (by show (match ab_so 0 L i.val (.int x) with | some L2 => some (L2, st) | none => none) = _; rw [show ab_so 0 L i.val (.int x) = ab_l1 L i.val (.int x) from rfl, hs] <;> rfl) K
theorem E_lstore {i : Nat} {x : Int64} (h : ab_at md pc = some (.lstore i, 2, k, ps)) (hs : ab_l2 L i (.long x) = some L2) (K : Ef Z d md (pc + 2, L2, st, cs) r) : Ef Z d md (pc, L, .long x :: st, cs) r :=
  Ef.lo h (Or.inl rfl) (ab_pu_none (fun _ => rfl) (fun _ => rfl) (fun _ _ => rfl) _) (by show (match ab_so 1 L i (.long x) with | some L2 => some (L2, st) | none => none) = _; rw [show ab_so 1 L i (.long x) = ab_l2 L i (.long x) from rfl, hs] <;> rfl) K
theorem E_lstore_n {i : Fin 4} {x : Int64} (h : ab_at md pc = some (.lstore_n i, 1, k, ps)) (hs : ab_l2 L i (.long x) = some L2) (K : Ef Z d md (pc + 1, L2, st, cs) r) : Ef Z d md (pc, L, .long x :: st, cs) r :=
  Ef.lo h (Or.inl rfl) (ab_pu_none (fun _ => rfl) (fun _ => rfl) (fun _ _ => rfl) _) (by show (match ab_so 1 L i.val (.long x) with | some L2 => some (L2, st) | none => none) = _; rw [show ab_so 1 L i.val (.long x) = ab_l2 L i.val (.long x) from rfl, hs] <;> rfl) K
theorem E_astore {i : Nat} {x : Nat} (h : ab_at md pc = some (.astore i, 2, k, ps)) (hs : ab_l1 L i (.ref x) = some L2) (K : Ef Z d md (pc + 2, L2, st, cs) r) : Ef Z d md (pc, L, .ref x :: st, cs) r :=
  Ef.lo h (Or.inl rfl) (ab_pu_none (fun _ => rfl) (fun _ => rfl) (fun _ _ => rfl) _) (by show (match ab_so 2 L i (.ref x) with | some L2 => some (L2, st) | none => none) = _; rw [show ab_so 2 L i (.ref x) = ab_l1 L i (.ref x) from rfl, hs] <;> rfl) K
theorem E_astore_n {i : Fin 4} {x : Nat} (h : ab_at md pc = some (.astore_n i, 1, k, ps)) (hs : ab_l1 L i (.ref x) = some L2) (K : Ef Z d md (pc + 1, L2, st, cs) r) : Ef Z d md (pc, L, .ref x :: st, cs) r :=
  Ef.lo h (Or.inl rfl) (ab_pu_none (fun _ => rfl) (fun _ => rfl) (fun _ _ => rfl) _) (by show (match ab_so 2 L i.val (.ref x) with | some L2 => some (L2, st) | none => none) = _; rw [show ab_so 2 L i.val (.ref x) = ab_l1 L i.val (.ref x) from rfl, hs] <;> rfl) K
theorem E_iinc {i : Nat} {n : Int} {x y : Int32} (h : ab_at md pc = some (.iinc i n, 3, k, ps)) (hg : ab_lg L i = some (.int x)) (hy : x + Int32.ofInt n = y) (hs : ab_l1 L i (.int y) = some L2) (K : Ef Z d md (pc + 3, L2, st, cs) r) : Ef Z d md (pc, L, st, cs) r :=
  Ef.lo h (Or.inl rfl) (ab_pu_none (fun _ => rfl) (fun _ => rfl) (fun _ _ => rfl) st) (by unfold ab_lo ab_lk; dsimp only; rw [hg]; dsimp only; rw [hy, hs]) K
theorem E_iconst {n : Int} {x : Int32} (h : ab_at md pc = some (.iconst n, 1, k, ps)) (hx : Int32.ofInt n = x) (K : Ef Z d md (pc + 1, L, .int x :: st, cs) r) : Ef Z d md (pc, L, st, cs) r :=
  Ef.pu h (Or.inl rfl) (by rw [← hx]; rfl) K
theorem E_bipush {n : Int} {x : Int32} (h : ab_at md pc = some (.bipush n, 2, k, ps)) (hx : (Int8.ofInt n).toInt32 = x) (K : Ef Z d md (pc + 2, L, .int x :: st, cs) r) : Ef Z d md (pc, L, st, cs) r :=
  Ef.pu h (Or.inl rfl) (by rw [← hx]; rfl) K
theorem E_sipush {n : Int} {x : Int32} (h : ab_at md pc = some (.sipush n, 3, k, ps)) (hx : (Int16.ofInt n).toInt32 = x) (K : Ef Z d md (pc + 3, L, .int x :: st, cs) r) : Ef Z d md (pc, L, st, cs) r :=
  Ef.pu h (Or.inl rfl) (by rw [← hx]; rfl) K
theorem E_lconst {n : Fin 2} {x : Int64} (h : ab_at md pc = some (.lconst n, 1, k, ps)) (hx : Int64.ofNat n = x) (K : Ef Z d md (pc + 1, L, .long x :: st, cs) r) : Ef Z d md (pc, L, st, cs) r :=
  Ef.pu h (Or.inl rfl) (by rw [← hx]; rfl) K
theorem E_dup {v : Value} (h : ab_at md pc = some (.dup, 1, k, ps)) (hv : v.category = 1) (K : Ef Z d md (pc + 1, L, v :: v :: r0, cs) r) : Ef Z d md (pc, L, v :: r0, cs) r :=
  Ef.pu h (Or.inl rfl) (by unfold ab_pu; dsimp only; rw [if_pos hv]) K
theorem E_pop {v : Value} (h : ab_at md pc = some (.pop, 1, k, ps)) (hv : v.category = 1) (K : Ef Z d md (pc + 1, L, r0, cs) r) : Ef Z d md (pc, L, v :: r0, cs) r :=
  Ef.pu h (Or.inl rfl) (by unfold ab_pu; dsimp only; rw [if_pos hv]) K
theorem E_pop2 {v : Value} (h : ab_at md pc = some (.pop2, 1, k, ps)) (hv : v.category = 2) (K : Ef Z d md (pc + 1, L, r0, cs) r) : Ef Z d md (pc, L, v :: r0, cs) r :=
  Ef.pu h (Or.inl rfl) (by unfold ab_pu; dsimp only; rw [if_pos hv]) K
theorem E_dup2 {v w : Value} (h : ab_at md pc = some (.dup2, 1, k, ps)) (hv : v.category = 1 ∧ w.category = 1) (K : Ef Z d md (pc + 1, L, v :: w :: v :: w :: r0, cs) r) : Ef Z d md (pc, L, v :: w :: r0, cs) r :=
  Ef.pu h (Or.inl rfl) (by unfold ab_pu; dsimp only; rw [if_pos hv]) K
theorem E_dup_x1 {v w : Value} (h : ab_at md pc = some (.dup_x1, 1, k, ps)) (hv : v.category = 1 ∧ w.category = 1) (K : Ef Z d md (pc + 1, L, v :: w :: v :: r0, cs) r) : Ef Z d md (pc, L, v :: w :: r0, cs) r :=
  Ef.pu h (Or.inl rfl) (by unfold ab_pu; dsimp only; rw [if_pos hv]) K
theorem E_goto {off : Int} {t : Nat} (h : ab_at md pc = some (.goto off, 3, k, ps)) (ht : ab_tg pc off = some t) (K : Ef Z d md (t, L, st, cs) r) : Ef Z d md (pc, L, st, cs) r :=
  Ef.pu h (Or.inl rfl) (by unfold ab_pu; dsimp only; rw [ht]) K
theorem E_if {c : ClassFile.Cond} {off : Int} {t : Nat} {x : Int32} {b : Bool} (h : ab_at md pc = some (.ifCond c off, 3, k, ps)) (ht : ab_tg pc off = some t) (hb : ab_cn c x 0 = b) (K : Ef Z d md (cond b t (pc + 3), L, r0, cs) r) : Ef Z d md (pc, L, .int x :: r0, cs) r :=
  Ef.pu h (Or.inl rfl) (by unfold ab_pu; dsimp only; rw [ht, hb]) K
theorem E_ic {c : ClassFile.Cond} {off : Int} {t : Nat} {x y : Int32} {b : Bool} (h : ab_at md pc = some (.if_icmp c off, 3, k, ps)) (ht : ab_tg pc off = some t) (hb : ab_cn c x y = b) (K : Ef Z d md (cond b t (pc + 3), L, r0, cs) r) : Ef Z d md (pc, L, .int y :: .int x :: r0, cs) r :=
  Ef.pu h (Or.inl rfl) (by unfold ab_pu; dsimp only; rw [ht, hb]) K
theorem E_tsIn {dflt lo hi off : Int} {offs : Array Int} {len t : Nat} {x : Int32} (h : ab_at md pc = some (.tableswitch dflt lo hi offs, len, k, ps)) (hn : ¬ (x.toInt < lo ∨ hi < x.toInt)) (ho : offs[(x.toInt - lo).toNat]? = some off) (ht : ab_tg pc off = some t) (K : Ef Z d md (t, L, r0, cs) r) : Ef Z d md (pc, L, .int x :: r0, cs) r :=
  Ef.pu h (Or.inr rfl) (by unfold ab_pu; dsimp only; rw [if_neg hn, ho]; dsimp only; rw [ht]) K
theorem E_tsOut {dflt lo hi : Int} {offs : Array Int} {len t : Nat} {x : Int32} (h : ab_at md pc = some (.tableswitch dflt lo hi offs, len, k, ps)) (hn : x.toInt < lo ∨ hi < x.toInt) (ht : ab_tg pc dflt = some t) (K : Ef Z d md (t, L, r0, cs) r) : Ef Z d md (pc, L, .int x :: r0, cs) r :=
  Ef.pu h (Or.inr rfl) (by unfold ab_pu; dsimp only; rw [if_pos hn, ht]) K
theorem E_ls {dflt off : Int} {qs : Array (Int × Int)} {len t : Nat} {x : Int32} (h : ab_at md pc = some (.lookupswitch dflt qs, len, k, ps)) (hs : (qs.toList.zip (qs.toList.drop 1)).all (fun (a, next) => a.1 < next.1) = true) (ho : Op.lookupswitch.offset qs.toList dflt x.toInt = off) (ht : ab_tg pc off = some t) (K : Ef Z d md (t, L, r0, cs) r) : Ef Z d md (pc, L, .int x :: r0, cs) r :=
  Ef.pu h (Or.inr rfl) (by unfold ab_pu; dsimp only; rw [if_pos hs, ho, ht]) K
theorem E_l2i {x : Int64} {z : Int32} (h : ab_at md pc = some (.l2i, 1, k, ps)) (hz : x.toInt32 = z) (K : Ef Z d md (pc + 1, L, .int z :: r0, cs) r) : Ef Z d md (pc, L, .long x :: r0, cs) r :=
  Ef.pu h (Or.inl rfl) (by rw [← hz]; rfl) K
theorem E_lshl {x z : Int64} {y : Int32} (h : ab_at md pc = some (.lshl, 1, k, ps)) (hz : x <<< (y.toInt64 &&& 63) = z) (K : Ef Z d md (pc + 1, L, .long z :: r0, cs) r) : Ef Z d md (pc, L, .int y :: .long x :: r0, cs) r :=
  Ef.pu h (Or.inl rfl) (by rw [← hz]; rfl) K
theorem E_lor {x y z : Int64} (h : ab_at md pc = some (.lor, 1, k, ps)) (hz : x ||| y = z) (K : Ef Z d md (pc + 1, L, .long z :: r0, cs) r) : Ef Z d md (pc, L, .long y :: .long x :: r0, cs) r :=
  Ef.pu h (Or.inl rfl) (by rw [← hz]; rfl) K
theorem E_land {x y z : Int64} (h : ab_at md pc = some (.land, 1, k, ps)) (hz : x &&& y = z) (K : Ef Z d md (pc + 1, L, .long z :: r0, cs) r) : Ef Z d md (pc, L, .long y :: .long x :: r0, cs) r :=
  Ef.pu h (Or.inl rfl) (by rw [← hz]; rfl) K
theorem E_lcmp {x y : Int64} {z : Int32} (h : ab_at md pc = some (.lcmp, 1, k, ps)) (hz : lg_cmp x y = z) (K : Ef Z d md (pc + 1, L, .int z :: r0, cs) r) : Ef Z d md (pc, L, .long y :: .long x :: r0, cs) r :=
  Ef.pu h (Or.inl rfl) (by rw [← hz]; rfl) K
theorem E_iadd {x y z : Int32} (h : ab_at md pc = some (.iadd, 1, k, ps)) (hz : x + y = z) (K : Ef Z d md (pc + 1, L, .int z :: r0, cs) r) : Ef Z d md (pc, L, .int y :: .int x :: r0, cs) r :=
  Ef.pu h (Or.inl rfl) (by rw [← hz]; rfl) K
theorem E_isub {x y z : Int32} (h : ab_at md pc = some (.isub, 1, k, ps)) (hz : x - y = z) (K : Ef Z d md (pc + 1, L, .int z :: r0, cs) r) : Ef Z d md (pc, L, .int y :: .int x :: r0, cs) r :=
  Ef.pu h (Or.inl rfl) (by rw [← hz]; rfl) K
theorem E_imul {x y z : Int32} (h : ab_at md pc = some (.imul, 1, k, ps)) (hz : x * y = z) (K : Ef Z d md (pc + 1, L, .int z :: r0, cs) r) : Ef Z d md (pc, L, .int y :: .int x :: r0, cs) r :=
  Ef.pu h (Or.inl rfl) (by rw [← hz]; rfl) K
theorem E_iand {x y z : Int32} (h : ab_at md pc = some (.iand, 1, k, ps)) (hz : x &&& y = z) (K : Ef Z d md (pc + 1, L, .int z :: r0, cs) r) : Ef Z d md (pc, L, .int y :: .int x :: r0, cs) r :=
  Ef.pu h (Or.inl rfl) (by rw [← hz]; rfl) K
theorem E_ior {x y z : Int32} (h : ab_at md pc = some (.ior, 1, k, ps)) (hz : x ||| y = z) (K : Ef Z d md (pc + 1, L, .int z :: r0, cs) r) : Ef Z d md (pc, L, .int y :: .int x :: r0, cs) r :=
  Ef.pu h (Or.inl rfl) (by rw [← hz]; rfl) K
theorem E_ixor {x y z : Int32} (h : ab_at md pc = some (.ixor, 1, k, ps)) (hz : x ^^^ y = z) (K : Ef Z d md (pc + 1, L, .int z :: r0, cs) r) : Ef Z d md (pc, L, .int y :: .int x :: r0, cs) r :=
  Ef.pu h (Or.inl rfl) (by rw [← hz]; rfl) K
theorem E_ishl {x y z : Int32} (h : ab_at md pc = some (.ishl, 1, k, ps)) (hz : x <<< (y &&& 31) = z) (K : Ef Z d md (pc + 1, L, .int z :: r0, cs) r) : Ef Z d md (pc, L, .int y :: .int x :: r0, cs) r :=
  Ef.pu h (Or.inl rfl) (by rw [← hz]; rfl) K
theorem E_ishr {x y z : Int32} (h : ab_at md pc = some (.ishr, 1, k, ps)) (hz : x >>> (y &&& 31) = z) (K : Ef Z d md (pc + 1, L, .int z :: r0, cs) r) : Ef Z d md (pc, L, .int y :: .int x :: r0, cs) r :=
  Ef.pu h (Or.inl rfl) (by rw [← hz]; rfl) K
theorem E_iushr {x y z : Int32} (h : ab_at md pc = some (.iushr, 1, k, ps)) (hz : (x.toUInt32 >>> (y.toUInt32 &&& Int32.toUInt32 31)).toInt32 = z) (K : Ef Z d md (pc + 1, L, .int z :: r0, cs) r) : Ef Z d md (pc, L, .int y :: .int x :: r0, cs) r :=
  Ef.pu h (Or.inl rfl) (by rw [← hz]; rfl) K
theorem E_idiv {x y z : Int32} (h : ab_at md pc = some (.idiv, 1, k, ps)) (hn : ¬ y = 0) (hz : x / y = z) (K : Ef Z d md (pc + 1, L, .int z :: r0, cs) r) : Ef Z d md (pc, L, .int y :: .int x :: r0, cs) r :=
  Ef.pu h (Or.inl rfl) (by rw [← hz]; show (match ab_i2 .idiv x y with | some z => some (pc + 1, Value.int z :: r0) | none => none) = _; unfold ab_i2; dsimp only; rw [if_neg hn]) K
theorem E_irem {x y z : Int32} (h : ab_at md pc = some (.irem, 1, k, ps)) (hn : ¬ y = 0) (hz : x - x / y * y = z) (K : Ef Z d md (pc + 1, L, .int z :: r0, cs) r) : Ef Z d md (pc, L, .int y :: .int x :: r0, cs) r :=
  Ef.pu h (Or.inl rfl) (by rw [← hz]; show (match ab_i2 .irem x y with | some z => some (pc + 1, Value.int z :: r0) | none => none) = _; unfold ab_i2; dsimp only; rw [if_neg hn]) K
theorem E_ineg {x : Int32} {z : Int32} (h : ab_at md pc = some (.ineg, 1, k, ps)) (hz : -x = z) (K : Ef Z d md (pc + 1, L, .int z :: r0, cs) r) : Ef Z d md (pc, L, .int x :: r0, cs) r :=
  Ef.pu h (Or.inl rfl) (by rw [← hz]; rfl) K
theorem E_i2l {x : Int32} {z : Int64} (h : ab_at md pc = some (.i2l, 1, k, ps)) (hz : x.toInt64 = z) (K : Ef Z d md (pc + 1, L, .long z :: r0, cs) r) : Ef Z d md (pc, L, .int x :: r0, cs) r :=
  Ef.pu h (Or.inl rfl) (by rw [← hz]; rfl) K
theorem E_i2b {x : Int32} {z : Int32} (h : ab_at md pc = some (.i2b, 1, k, ps)) (hz : x.toInt8.toInt32 = z) (K : Ef Z d md (pc + 1, L, .int z :: r0, cs) r) : Ef Z d md (pc, L, .int x :: r0, cs) r :=
  Ef.pu h (Or.inl rfl) (by rw [← hz]; rfl) K
theorem E_i2s {x : Int32} {z : Int32} (h : ab_at md pc = some (.i2s, 1, k, ps)) (hz : x.toInt16.toInt32 = z) (K : Ef Z d md (pc + 1, L, .int z :: r0, cs) r) : Ef Z d md (pc, L, .int x :: r0, cs) r :=
  Ef.pu h (Or.inl rfl) (by rw [← hz]; rfl) K
theorem E_getfield {i ci f a N : Nat} {C : String} {T : u_T} {ty : Nat → FieldType} {fs : List Value} {v : Value} (h : ab_at md pc = some (.getfield i, 3, (1, ci, f), ps)) (hc : cs[a]? = some (.inr (.inr (.inr (ci, fs))))) (hg : ab_G ci = some (C, T, N, ty)) (hN : f < N) (hv : fs[f]? = some v) (K : Ef Z d md (pc + 3, L, v :: r0, cs) r) : Ef Z d md (pc, L, .ref a :: r0, cs) r :=
  Ef.hp h (Or.inl rfl) rfl rfl (by show ab_gf ab_G ci f (.ref a :: r0) cs = _; unfold ab_gf; dsimp only; rw [hc, hg]; dsimp only; rw [if_pos ⟨rfl, hN⟩, hv]) K
theorem E_putfield {i ci f a N : Nat} {C : String} {T : u_T} {ty : Nat → FieldType} {fs : List Value} {v : Value} (h : ab_at md pc = some (.putfield i, 3, (1, ci, f), ps)) (hc : cs[a]? = some (.inr (.inr (.inr (ci, fs))))) (hg : ab_G ci = some (C, T, N, ty)) (hN : f < N) (hl : f < fs.length) (ht : ab_ft (ty f) v = true) (hfin : (T f).2.2.2 = false) (hp0 : ab_pu (.putfield i) pc (v :: .ref a :: r0) = none) (h2 : cs.set a (.inr (.inr (.inr (ci, fs.set f v)))) = cs2) (K : Ef Z d md (pc + 3, L, r0, cs2) r) : Ef Z d md (pc, L, v :: .ref a :: r0, cs) r :=
  Ef.hp h (Or.inl rfl) hp0 rfl (by show ab_pf ab_G _ _ ci f (v :: .ref a :: r0) cs = _; unfold ab_pf; dsimp only; rw [hc, hg]; dsimp only; rw [if_pos ⟨rfl, hN, hl, ht, fun q => by rw [hfin] at q; cases q⟩, h2]) K
theorem E_iaload {a j : Nat} {i x : Int32} {l : List Int32} (h : ab_at md pc = some (.iaload, 1, k, ps)) (hc : cs[a]? = some (.inl l)) (hi : ¬ i < 0) (hj : i.toNatClampNeg = j) (hx : l[j]? = some x) (K : Ef Z d md (pc + 1, L, .int x :: r0, cs) r) : Ef Z d md (pc, L, .int i :: .ref a :: r0, cs) r :=
  Ef.hp h (Or.inl rfl) rfl rfl (by
    show ab_ia Z.2 (.int i :: .ref a :: r0) cs = some (.int x :: r0, cs)
    unfold ab_ia
    dsimp only
    rw [hc]
    dsimp only
    rw [hj, if_neg (not_or.mpr ⟨hi, Nat.not_le.mpr (List.getElem?_eq_some_iff.mp hx).1⟩), List.getD_eq_getElem?_getD, hx]
    rfl) K
theorem E_tload {a j t : Nat} {i x : Int32} {l : List Int32} (h : ab_at md pc = some (.iaload, 1, k, ps)) (hc : cs[a]? = none) (ha : a - 1000000 = t) (ha2 : ¬ a < 1000000) (ht : Z.2[t]? = some l) (hi : ¬ i < 0) (hj : i.toNatClampNeg = j) (hx : l[j]? = some x) (K : Ef Z d md (pc + 1, L, .int x :: r0, cs) r) : Ef Z d md (pc, L, .int i :: .ref a :: r0, cs) r :=
  Ef.hp h (Or.inl rfl) rfl rfl (by
    show ab_ia Z.2 (.int i :: .ref a :: r0) cs = some (.int x :: r0, cs)
    unfold ab_ia
    dsimp only
    rw [hc]
    dsimp only
    rw [ha, ht]
    dsimp only
    rw [hj, if_neg (not_or.mpr ⟨ha2, not_or.mpr ⟨hi, Nat.not_le.mpr (List.getElem?_eq_some_iff.mp hx).1⟩⟩), List.getD_eq_getElem?_getD, hx]
    rfl) K
theorem E_tlen {a t : Nat} {n : Int32} {l : List Int32} (h : ab_at md pc = some (.arraylength, 1, k, ps)) (hc : cs[a]? = none) (ha : a - 1000000 = t) (ha2 : ¬ a < 1000000) (ht : Z.2[t]? = some l) (hn : Int32.ofNat l.length = n) (K : Ef Z d md (pc + 1, L, .int n :: r0, cs) r) : Ef Z d md (pc, L, .ref a :: r0, cs) r :=
  Ef.hp h (Or.inl rfl) rfl rfl (by
    show ab_al Z.2 (.ref a :: r0) cs = some (.int n :: r0, cs)
    unfold ab_al
    dsimp only
    rw [hc]
    dsimp only
    rw [ha, ht]
    dsimp only
    rw [if_neg ha2, hn]) K
theorem E_aaload {a j b : Nat} {i : Int32} {l : List (Option Nat)} (h : ab_at md pc = some (.aaload, 1, k, ps)) (hc : cs[a]? = some (.inr (.inr (.inl l)))) (hi : ¬ i < 0) (hj : i.toNatClampNeg = j) (hx : l[j]? = some (some b)) (K : Ef Z d md (pc + 1, L, .ref b :: r0, cs) r) : Ef Z d md (pc, L, .int i :: .ref a :: r0, cs) r :=
  Ef.hp h (Or.inl rfl) rfl rfl (by
    show ab_aa (.int i :: .ref a :: r0) cs = some (.ref b :: r0, cs)
    unfold ab_aa
    dsimp only
    rw [hc]
    dsimp only
    rw [hj, if_neg (not_or.mpr ⟨hi, Nat.not_le.mpr (List.getElem?_eq_some_iff.mp hx).1⟩), List.getD_eq_getElem?_getD, hx]
    rfl) K
theorem E_laload {a j : Nat} {i : Int32} {x : Int64} {l : List Int64} (h : ab_at md pc = some (.laload, 1, k, ps)) (hc : cs[a]? = some (.inr (.inl l))) (hi : ¬ i < 0) (hj : i.toNatClampNeg = j) (hx : l[j]? = some x) (K : Ef Z d md (pc + 1, L, .long x :: r0, cs) r) : Ef Z d md (pc, L, .int i :: .ref a :: r0, cs) r :=
  Ef.hp h (Or.inl rfl) rfl rfl (by
    show ab_la (.int i :: .ref a :: r0) cs = some (.long x :: r0, cs)
    unfold ab_la
    dsimp only
    rw [hc]
    dsimp only
    rw [hj, if_neg (not_or.mpr ⟨hi, Nat.not_le.mpr (List.getElem?_eq_some_iff.mp hx).1⟩), List.getD_eq_getElem?_getD, hx]
    rfl) K
theorem E_iastore {a j : Nat} {i x : Int32} {l : List Int32} (h : ab_at md pc = some (.iastore, 1, k, ps)) (hc : cs[a]? = some (.inl l)) (hi : ¬ i < 0) (hj : i.toNatClampNeg = j) (hl : j < l.length) (h2 : cs.set a (.inl (l.set j x)) = cs2) (K : Ef Z d md (pc + 1, L, r0, cs2) r) : Ef Z d md (pc, L, .int x :: .int i :: .ref a :: r0, cs) r :=
  Ef.hp h (Or.inl rfl) rfl rfl (by
    show ab_is (.int x :: .int i :: .ref a :: r0) cs = some (r0, cs2)
    unfold ab_is
    dsimp only
    rw [hc]
    dsimp only
    rw [hj, if_neg (not_or.mpr ⟨hi, Nat.not_le.mpr hl⟩), h2]) K
theorem E_lastore {a j : Nat} {i : Int32} {x : Int64} {l : List Int64} (h : ab_at md pc = some (.lastore, 1, k, ps)) (hc : cs[a]? = some (.inr (.inl l))) (hi : ¬ i < 0) (hj : i.toNatClampNeg = j) (hl : j < l.length) (h2 : cs.set a (.inr (.inl (l.set j x))) = cs2) (K : Ef Z d md (pc + 1, L, r0, cs2) r) : Ef Z d md (pc, L, .long x :: .int i :: .ref a :: r0, cs) r :=
  Ef.hp h (Or.inl rfl) rfl rfl (by
    show ab_lst (.long x :: .int i :: .ref a :: r0) cs = some (r0, cs2)
    unfold ab_lst
    dsimp only
    rw [hc]
    dsimp only
    rw [hj, if_neg (not_or.mpr ⟨hi, Nat.not_le.mpr hl⟩), h2]) K
theorem E_max {i a b : Nat} {x y z : Int32} (h : ab_at md pc = some (.invokestatic i, 3, (7, a, b), ps)) (hs : ab_sm r0 ≤ 8) (hz : (if x < y then y else x) = z) (K : Ef Z d md (pc + 3, L, .int z :: r0, cs) r) : Ef Z d md (pc, L, .int y :: .int x :: r0, cs) r :=
  Ef.hp h (Or.inl rfl) rfl rfl (by show ab_mx (.int y :: .int x :: r0) cs = _; unfold ab_mx; dsimp only; rw [if_pos hs, hz]) K
theorem E_min {i a b : Nat} {x y z : Int32} (h : ab_at md pc = some (.invokestatic i, 3, (8, a, b), ps)) (hs : ab_sm r0 ≤ 8) (hz : (if y < x then y else x) = z) (K : Ef Z d md (pc + 3, L, .int z :: r0, cs) r) : Ef Z d md (pc, L, .int y :: .int x :: r0, cs) r :=
  Ef.hp h (Or.inl rfl) rfl rfl (by show ab_mn (.int y :: .int x :: r0) cs = _; unfold ab_mn; dsimp only; rw [if_pos hs, hz]) K
theorem E_ldc {i a b : Nat} {x : Int32} (h : ab_at md pc = some (.ldc i, 2, (10, a, b), ps)) (hx : Int32.ofNat a = x) (K : Ef Z d md (pc + 2, L, .int x :: st, cs) r) : Ef Z d md (pc, L, st, cs) r :=
  Ef.hp h (Or.inl rfl) (ab_pu_none (fun _ => rfl) (fun _ => rfl) (fun _ _ => rfl) st) rfl (by rw [← hx]; rfl) K
theorem E_ldc_w {i a b : Nat} {x : Int32} (h : ab_at md pc = some (.ldc_w i, 3, (10, a, b), ps)) (hx : Int32.ofNat a = x) (K : Ef Z d md (pc + 3, L, .int x :: st, cs) r) : Ef Z d md (pc, L, st, cs) r :=
  Ef.hp h (Or.inl rfl) (ab_pu_none (fun _ => rfl) (fun _ => rfl) (fun _ _ => rfl) st) rfl (by rw [← hx]; rfl) K
theorem E_ldc2 {i a b : Nat} {x : Int64} (h : ab_at md pc = some (.ldc2_w i, 3, (11, a, b), ps)) (hx : Int64.ofNat a = x) (K : Ef Z d md (pc + 3, L, .long x :: st, cs) r) : Ef Z d md (pc, L, st, cs) r :=
  Ef.hp h (Or.inl rfl) (ab_pu_none (fun _ => rfl) (fun _ => rfl) (fun _ _ => rfl) st) rfl (by rw [← hx]; rfl) K
theorem E_getstatic {i a b t : Nat} (h : ab_at md pc = some (.getstatic i, 3, (13, a, b), ps)) (hx : 1000000 + a = t) (K : Ef Z d md (pc + 3, L, .ref t :: st, cs) r) : Ef Z d md (pc, L, st, cs) r :=
  Ef.hp h (Or.inl rfl) (ab_pu_none (fun _ => rfl) (fun _ => rfl) (fun _ _ => rfl) st) rfl (by rw [← hx]; rfl) K
theorem E_iret {x : Int32} (h : ab_at md pc = some (.ireturn, 1, k, ps)) (hr : ab_re md.2.2.2.1 .ireturn [.int x] = some (some (.int x))) : Ef Z d md (pc, L, [.int x], cs) (some (.int x), cs) :=
  Ef.re h (Or.inl rfl) rfl rfl rfl hr
theorem E_lret {x : Int64} (h : ab_at md pc = some (.lreturn, 1, k, ps)) (hr : ab_re md.2.2.2.1 .lreturn [.long x] = some (some (.long x))) : Ef Z d md (pc, L, [.long x], cs) (some (.long x), cs) :=
  Ef.re h (Or.inl rfl) rfl rfl rfl hr
theorem E_vret (h : ab_at md pc = some (.return_, 1, k, ps)) (hr : ab_re md.2.2.2.1 .return_ [] = some none) : Ef Z d md (pc, L, [], cs) (none, cs) :=
  Ef.re h (Or.inl rfl) rfl rfl rfl hr
theorem ab_hp_iv {i y n : Nat} {md : ab_D} {Z : ab_Z} {st : List Value} {cs : List ab_C} : ab_hp ab_G Z md.2.2.2.2.1 md.2.2.2.2.2.2.1 (.invokevirtual i) (3, y, n) st cs = none := rfl
theorem E_callV {d0 i y n : Nat} {my : ab_D} {v : Option Value} {As : List Value} (h : ab_at md pc = some (.invokevirtual i, 3, (3, y, n), ps)) (hca : ab_ca (.invokevirtual i) (3, y, n) st = some (y, As, r0)) (hmy : ab_M[y]? = some my) (c1 : ab_sm r0 ≤ 8) (c2 : As.length = my.2.2.2.2.2.1 + 1) (c3 : ab_rv ab_G my.2.2.2.2.1 As cs = true) (hv : Ev ab_Z0 d0 y As cs (v, cs2)) (hd : d0 ≤ d) (hf : cs2.length = cs.length) (K : Ef Z d md (pc + 3, L, v.toList ++ r0, cs2) r) : Ef Z d md (pc, L, st, cs) r :=
  Ef.ca h (Or.inl rfl) (ab_pu_none (fun _ => rfl) (fun _ => rfl) (fun _ _ => rfl) st) rfl rfl rfl rfl hca hmy ⟨c1, c2, fun _ => c3, fun q => by rcases q with q | q <;> cases q⟩ (hv.up hd) (Or.inl hf) K
theorem E_callS {d0 i y n : Nat} {my : ab_D} {v : Option Value} {As : List Value} (h : ab_at md pc = some (.invokestatic i, 3, (4, y, n), ps)) (hca : ab_ca (.invokestatic i) (4, y, n) st = some (y, As, r0)) (hmy : ab_M[y]? = some my) (c1 : ab_sm r0 ≤ 8) (c2 : As.length = my.2.2.2.2.2.1) (hv : Ev ab_Z0 d0 y As cs (v, cs2)) (hd : d0 ≤ d) (hf : cs2.length = cs.length) (K : Ef Z d md (pc + 3, L, v.toList ++ r0, cs2) r) : Ef Z d md (pc, L, st, cs) r :=
  Ef.ca h (Or.inl rfl) (ab_pu_none (fun _ => rfl) (fun _ => rfl) (fun _ _ => rfl) st) rfl rfl rfl rfl hca hmy ⟨c1, c2, fun q => (by cases q), fun q => by rcases q with q | q <;> cases q⟩ (hv.up hd) (Or.inl hf) K
theorem E_new {i ci a : Nat} {C : String} {T : u_T} {N : Nat} {ty : Nat → FieldType} {q : Nat} (h : ab_at md pc = some (.new i, 3, (2, ci, a), ps)) (hg : ab_G ci = some (C, T, N, ty)) (hq : cs.length = q) (hf : cs.length < 1000000 ∧ (L.all (ab_fo cs.length) && (st.all (ab_fv cs.length) && cs.all (ab_fc cs.length))) = true) (K : Ef Z d md (pc + 3, L, .ref q :: st, cs ++ [.inr (.inr (.inr (ci, ab_df ty N)))]) r) : Ef Z d md (pc, L, st, cs) r :=
  Ef.nw h (Or.inl rfl) (ab_pu_none (fun _ => rfl) (fun _ => rfl) (fun _ _ => rfl) st) rfl rfl rfl (by show (match ab_G ci with | some (_, _, N, ty) => some (st, _) | none => none) = _; rw [hg]) hf (by rw [hq]; exact K)
theorem E_init {d0 i y n : Nat} {my : ab_D} {As : List Value} (h : ab_at md pc = some (.invokespecial i, 3, (5, y, n), ps)) (hca : ab_ca (.invokespecial i) (5, y, n) st = some (y, As, r0)) (hmy : ab_M[y]? = some my) (c1 : ab_sm r0 ≤ 8) (c2 : As.length = my.2.2.2.2.2.1 + 1) (c3 : my.2.2.2.2.2.2.1 = true ∧ my.2.2.2.1 = none ∧ ab_rf As = true) (hv : Ev ab_Z0 d0 y As cs (none, cs2)) (hd : d0 ≤ d) (hf : (L.all (ab_fo cs.length) && r0.all (ab_fv cs.length)) = true) (K : Ef Z d md (pc + 3, L, r0, cs2) r) : Ef Z d md (pc, L, st, cs) r :=
  Ef.ca h (Or.inl rfl) (ab_pu_none (fun _ => rfl) (fun _ => rfl) (fun _ _ => rfl) st) rfl rfl rfl rfl hca hmy ⟨c1, c2, fun q => (by cases q), fun _ => c3⟩ (hv.up hd) (Or.inr hf) K
end ER
theorem cn_eq {x y : Int32} {a b : Int} (hx : x.toInt = a) (hy : y.toInt = b) : ab_cn .eq x y = decide (a = b) := by
  subst hx; subst hy
  exact decide_eq_decide.mpr (Int32.toInt_inj).symm
theorem cn_ne {x y : Int32} {a b : Int} (hx : x.toInt = a) (hy : y.toInt = b) : ab_cn .ne x y = decide (¬ a = b) := by
  subst hx; subst hy
  exact decide_eq_decide.mpr (not_congr (Int32.toInt_inj).symm)
theorem cn_lt {x y : Int32} {a b : Int} (hx : x.toInt = a) (hy : y.toInt = b) : ab_cn .lt x y = decide (a < b) := by
  subst hx; subst hy
  exact decide_eq_decide.mpr Int32.lt_iff_toInt_lt
theorem cn_ge {x y : Int32} {a b : Int} (hx : x.toInt = a) (hy : y.toInt = b) : ab_cn .ge x y = decide (b ≤ a) := by
  subst hx; subst hy
  exact decide_eq_decide.mpr Int32.le_iff_toInt_le
theorem cn_gt {x y : Int32} {a b : Int} (hx : x.toInt = a) (hy : y.toInt = b) : ab_cn .gt x y = decide (b < a) := by
  subst hx; subst hy
  exact decide_eq_decide.mpr Int32.lt_iff_toInt_lt
theorem cn_le {x y : Int32} {a b : Int} (hx : x.toInt = a) (hy : y.toInt = b) : ab_cn .le x y = decide (a ≤ b) := by
  subst hx; subst hy
  exact decide_eq_decide.mpr Int32.le_iff_toInt_le
