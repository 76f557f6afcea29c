/-! an instruction read out of a list of bytes: only the bytes from its place on are looked at; by program (wip/tools/bytes.py) -/
abbrev ab_kd : Type := Nat × (Int → Int → Instr)
def ab_tab : List (Nat × ab_kd) := [(0, 0, fun _ _ => .nop), (1, 0, fun _ _ => .aconst_null), (2, 0, fun _ _ => .iconst (-1)), (3, 0, fun _ _ => .iconst 0), (4, 0, fun _ _ => .iconst 1), (5, 0, fun _ _ => .iconst 2), (6, 0, fun _ _ => .iconst 3), (7, 0, fun _ _ => .iconst 4), (8, 0, fun _ _ => .iconst 5), (9, 0, fun _ _ => .lconst 0), (10, 0, fun _ _ => .lconst 1), (16, 2, fun x _ => .bipush x), (17, 4, fun x _ => .sipush x), (18, 1, fun x _ => .ldc x.toNat), (19, 3, fun x _ => .ldc_w x.toNat), (20, 3, fun x _ => .ldc2_w x.toNat), (21, 1, fun x _ => .iload x.toNat), (22, 1, fun x _ => .lload x.toNat), (25, 1, fun x _ => .aload x.toNat), (26, 0, fun _ _ => .iload_n 0), (27, 0, fun _ _ => .iload_n 1), (28, 0, fun _ _ => .iload_n 2), (29, 0, fun _ _ => .iload_n 3), (30, 0, fun _ _ => .lload_n 0), (31, 0, fun _ _ => .lload_n 1), (32, 0, fun _ _ => .lload_n 2), (33, 0, fun _ _ => .lload_n 3), (42, 0, fun _ _ => .aload_n 0), (43, 0, fun _ _ => .aload_n 1), (44, 0, fun _ _ => .aload_n 2), (45, 0, fun _ _ => .aload_n 3), (46, 0, fun _ _ => .iaload), (47, 0, fun _ _ => .laload), (50, 0, fun _ _ => .aaload), (54, 1, fun x _ => .istore x.toNat), (55, 1, fun x _ => .lstore x.toNat), (58, 1, fun x _ => .astore x.toNat), (59, 0, fun _ _ => .istore_n 0), (60, 0, fun _ _ => .istore_n 1), (61, 0, fun _ _ => .istore_n 2), (62, 0, fun _ _ => .istore_n 3), (63, 0, fun _ _ => .lstore_n 0), (64, 0, fun _ _ => .lstore_n 1), (65, 0, fun _ _ => .lstore_n 2), (66, 0, fun _ _ => .lstore_n 3), (75, 0, fun _ _ => .astore_n 0), (76, 0, fun _ _ => .astore_n 1), (77, 0, fun _ _ => .astore_n 2), (78, 0, fun _ _ => .astore_n 3), (79, 0, fun _ _ => .iastore), (80, 0, fun _ _ => .lastore), (83, 0, fun _ _ => .aastore), (87, 0, fun _ _ => .pop), (88, 0, fun _ _ => .pop2), (89, 0, fun _ _ => .dup), (90, 0, fun _ _ => .dup_x1), (91, 0, fun _ _ => .dup_x2), (92, 0, fun _ _ => .dup2), (93, 0, fun _ _ => .dup2_x1), (95, 0, fun _ _ => .swap), (96, 0, fun _ _ => .iadd), (97, 0, fun _ _ => .ladd), (100, 0, fun _ _ => .isub), (101, 0, fun _ _ => .lsub), (104, 0, fun _ _ => .imul), (105, 0, fun _ _ => .lmul), (108, 0, fun _ _ => .idiv), (109, 0, fun _ _ => .ldiv), (112, 0, fun _ _ => .irem), (113, 0, fun _ _ => .lrem), (116, 0, fun _ _ => .ineg), (117, 0, fun _ _ => .lneg), (120, 0, fun _ _ => .ishl), (121, 0, fun _ _ => .lshl), (122, 0, fun _ _ => .ishr), (123, 0, fun _ _ => .lshr), (124, 0, fun _ _ => .iushr), (125, 0, fun _ _ => .lushr), (126, 0, fun _ _ => .iand), (127, 0, fun _ _ => .land), (128, 0, fun _ _ => .ior), (129, 0, fun _ _ => .lor), (130, 0, fun _ _ => .ixor), (131, 0, fun _ _ => .lxor), (132, 5, fun x y => .iinc x.toNat y), (133, 0, fun _ _ => .i2l), (136, 0, fun _ _ => .l2i), (145, 0, fun _ _ => .i2b), (146, 0, fun _ _ => .i2c), (147, 0, fun _ _ => .i2s), (148, 0, fun _ _ => .lcmp), (153, 4, fun x _ => .ifCond .eq x), (154, 4, fun x _ => .ifCond .ne x), (155, 4, fun x _ => .ifCond .lt x), (156, 4, fun x _ => .ifCond .ge x), (157, 4, fun x _ => .ifCond .gt x), (158, 4, fun x _ => .ifCond .le x), (159, 4, fun x _ => .if_icmp .eq x), (160, 4, fun x _ => .if_icmp .ne x), (161, 4, fun x _ => .if_icmp .lt x), (162, 4, fun x _ => .if_icmp .ge x), (163, 4, fun x _ => .if_icmp .gt x), (164, 4, fun x _ => .if_icmp .le x), (165, 4, fun x _ => .if_acmp .eq x), (166, 4, fun x _ => .if_acmp .ne x), (167, 4, fun x _ => .goto x), (172, 0, fun _ _ => .ireturn), (173, 0, fun _ _ => .lreturn), (176, 0, fun _ _ => .areturn), (177, 0, fun _ _ => .return_), (178, 3, fun x _ => .getstatic x.toNat), (180, 3, fun x _ => .getfield x.toNat), (181, 3, fun x _ => .putfield x.toNat), (182, 3, fun x _ => .invokevirtual x.toNat), (183, 3, fun x _ => .invokespecial x.toNat), (184, 3, fun x _ => .invokestatic x.toNat), (187, 3, fun x _ => .new x.toNat), (189, 3, fun x _ => .anewarray x.toNat), (190, 0, fun _ _ => .arraylength), (198, 4, fun x _ => .ifnull x), (199, 4, fun x _ => .ifnonnull x)]
def ab_fd : List (Nat × ab_kd) → Nat → Option ab_kd
  | [], _ => none
  | q :: t, b => bif q.1.beq b then some q.2 else ab_fd t b
theorem ab_fd_mem : ∀ (t : List (Nat × ab_kd)) (b : Nat) (k : ab_kd), ab_fd t b = some k → (b, k) ∈ t
  | [], _, _, h => by cases h
  | q :: t, b, k, h => by
    unfold ab_fd at h
    cases hb : q.1.beq b with
    | true =>
      rw [hb] at h
      have e := Nat.eq_of_beq_eq_true hb
      cases h
      subst e
      exact List.mem_cons_self
    | false =>
      rw [hb] at h
      exact List.mem_cons_of_mem _ (ab_fd_mem t b k h)
def ab_dk (k : ab_kd) (r : List UInt8) : Option (Instr × Nat) := match k.1, r with
  | 0, _ => some (k.2 0 0, 1)
  | 1, c :: _ => some (k.2 (c.toNat : Int) 0, 2)
  | 2, c :: _ => some (k.2 (Jvm.ClassFile.Reader.signed 8 c.toNat) 0, 2)
  | 3, c :: d :: _ => some (k.2 ((c.toNat * 256 + d.toNat : Nat) : Int) 0, 3)
  | 4, c :: d :: _ => some (k.2 (Jvm.ClassFile.Reader.signed 16 (c.toNat * 256 + d.toNat)) 0, 3)
  | 5, c :: d :: _ => some (k.2 (c.toNat : Int) (Jvm.ClassFile.Reader.signed 8 d.toNat), 3)
  | _, _ => none
def ab_dc : List UInt8 → Option (Instr × Nat)
  | [] => none
  | b :: r => match ab_fd ab_tab b.toNat with
    | some k => ab_dk k r
    | none => none
abbrev ab_R1 : Jvm.ClassFile.Decoder Nat := Jvm.ClassFile.Reader.u1
abbrev ab_R2 : Jvm.ClassFile.Decoder Nat := Jvm.ClassFile.Reader.u2
abbrev ab_R3 : Jvm.ClassFile.Decoder Int := Jvm.ClassFile.Reader.s1
abbrev ab_R4 : Jvm.ClassFile.Decoder Int := Jvm.ClassFile.Reader.s2
/-- what follows the byte that says which instruction it is -/
def ab_rd (k : ab_kd) : Jvm.ClassFile.Decoder Instr := match k.1 with
  | 0 => pure (k.2 0 0)
  | 1 => ab_R1 >>= fun (n : Nat) => pure (k.2 (n : Int) 0)
  | 2 => ab_R3 >>= fun n => pure (k.2 n 0)
  | 3 => ab_R2 >>= fun (n : Nat) => pure (k.2 (n : Int) 0)
  | 4 => ab_R4 >>= fun n => pure (k.2 n 0)
  | _ => ab_R1 >>= fun (n : Nat) => ab_R3 >>= fun q => pure (k.2 (n : Int) q)
theorem ab_bd1 {α β : Type} {F : β → Jvm.ClassFile.Decoder α} {D : Jvm.ClassFile.Decoder α} {R : Jvm.ClassFile.Decoder β} (e : D = R >>= F) {cc : ByteArray} {p q : Nat} {n : β} (h : R cc p = .ok (n, q)) : D cc p = F n cc q := by
  subst e
  show Except.bind (R cc p) (fun q => F q.1 cc q.2) = _
  rw [h]
  rfl
theorem ab_r2 {cc : ByteArray} {p n m : Nat} (h : ab_R1 cc p = .ok (n, p + 1)) (h2 : ab_R1 cc (p + 1) = .ok (m, p + 2)) : ab_R2 cc p = .ok (n * 256 + m, p + 2) := by
  refine (ab_bd1 (D := ab_R2) (R := ab_R1) (F := fun n => ab_R1 >>= fun m => pure (n * 256 + m)) rfl h).trans ?_
  exact (ab_bd1 (R := ab_R1) (F := fun m => pure (n * 256 + m)) rfl h2).trans rfl
theorem ab_map1 {α β : Type} {f : β → α} {D : Jvm.ClassFile.Decoder α} {R : Jvm.ClassFile.Decoder β} (e : D = f <$> R) {cc : ByteArray} {p q : Nat} {n : β} (h : R cc p = .ok (n, q)) : D cc p = .ok (f n, q) := by
  subst e
  show Except.map (fun q => (f q.1, q.2)) (R cc p) = _
  rw [h]
  rfl
theorem ab_u1 {cc : ByteArray} {p : Nat} {b : UInt8} {r : List UInt8} (h : cc.data.toList.drop p = b :: r) : ab_R1 cc p = .ok (b.toNat, p + 1) := by
  have h0 : cc.data.toList[p]? = some b := by
    have := congrArg (fun l => l[0]?) h
    simpa using this
  have hlt : p < cc.data.size := by
    have := (List.getElem?_eq_some_iff.mp h0).1
    simpa using this
  have hb : cc.data[p] = b := by
    have := (List.getElem?_eq_some_iff.mp h0).2
    simpa using this
  have hlt' : p < cc.size := hlt
  show (if h : p < cc.size then (do set (p + 1); pure (cc[p]).toNat : Jvm.ClassFile.Decoder Nat) else throw (Jvm.ClassFile.HasTruncated.truncated p)) cc p = _
  rw [dif_pos hlt']
  show Except.ok ((cc.data[p]).toNat, p + 1) = _
  rw [hb]
theorem ab_dropS {l : List UInt8} {p : Nat} {b : UInt8} {r : List UInt8} (h : l.drop p = b :: r) : l.drop (p + 1) = r := by
  rw [← List.drop_drop, h]
  rfl
theorem ab_rd_ok {k : ab_kd} {cc : ByteArray} {p len : Nat} {ins : Instr} (h : ab_dk k (cc.data.toList.drop p) = some (ins, len)) : ab_rd k cc p = .ok (ins, p + len - 1) := by
  obtain ⟨kn, f⟩ := k
  unfold ab_dk at h
  split at h
  · cases h
    rename_i e
    dsimp only at e
    subst e
    rfl
  · rename_i c r e hr
    cases h
    dsimp only at e
    subst e
    exact (ab_bd1 (R := ab_R1) (F := fun (n : Nat) => pure (f (n : Int) 0)) rfl (ab_u1 hr)).trans rfl
  · rename_i c r e hr
    cases h
    dsimp only at e
    subst e
    exact (ab_bd1 (R := ab_R3) (F := fun n => pure (f n 0)) rfl (ab_map1 rfl (ab_u1 hr))).trans rfl
  · rename_i c d r e hr
    cases h
    dsimp only at e
    subst e
    exact (ab_bd1 (R := ab_R2) (F := fun (n : Nat) => pure (f (n : Int) 0)) rfl (ab_r2 (ab_u1 hr) (ab_u1 (ab_dropS hr)))).trans rfl
  · rename_i c d r e hr
    cases h
    dsimp only at e
    subst e
    exact (ab_bd1 (R := ab_R4) (F := fun n => pure (f n 0)) rfl (ab_map1 rfl (ab_r2 (ab_u1 hr) (ab_u1 (ab_dropS hr))))).trans rfl
  · rename_i c d r e hr
    cases h
    dsimp only at e
    subst e
    refine (ab_bd1 (R := ab_R1) (F := fun (n : Nat) => ab_R3 >>= fun q => pure (f (n : Int) q)) rfl (ab_u1 hr)).trans ?_
    exact (ab_bd1 (R := ab_R3) (F := fun q => pure (f _ q)) rfl (ab_map1 rfl (ab_u1 (ab_dropS hr)))).trans rfl
  · cases h
/-- the kind that the table says is what the reader does -/
def ab_tk (q : Nat × ab_kd) : Prop := ∀ (pc : Nat) (cc : ByteArray) (p : Nat), ab_R1 cc p = .ok (q.1, p + 1) → Jvm.ClassFile.Decoder.instr pc cc p = ab_rd q.2 cc (p + 1)
set_option maxRecDepth 100000 in
theorem ab_tab_ok : ∀ q ∈ ab_tab, ab_tk q := List.forall_mem_cons.mpr ⟨fun pc cc p h => (ab_bd1 (D := Jvm.ClassFile.Decoder.instr pc) (R := ab_R1) rfl h).trans rfl, List.forall_mem_cons.mpr ⟨fun pc cc p h => (ab_bd1 (D := Jvm.ClassFile.Decoder.instr pc) (R := ab_R1) rfl h).trans rfl, List.forall_mem_cons.mpr ⟨fun pc cc p h => (ab_bd1 (D := Jvm.ClassFile.Decoder.instr pc) (R := ab_R1) rfl h).trans rfl, List.forall_mem_cons.mpr ⟨fun pc cc p h => (ab_bd1 (D := Jvm.ClassFile.Decoder.instr pc) (R := ab_R1) rfl h).trans rfl, List.forall_mem_cons.mpr ⟨fun pc cc p h => (ab_bd1 (D := Jvm.ClassFile.Decoder.instr pc) (R := ab_R1) rfl h).trans rfl, List.forall_mem_cons.mpr ⟨fun pc cc p h => (ab_bd1 (D := Jvm.ClassFile.Decoder.instr pc) (R := ab_R1) rfl h).trans rfl, List.forall_mem_cons.mpr ⟨fun pc cc p h => (ab_bd1 (D := Jvm.ClassFile.Decoder.instr pc) (R := ab_R1) rfl h).trans rfl, List.forall_mem_cons.mpr ⟨fun pc cc p h => (ab_bd1 (D := Jvm.ClassFile.Decoder.instr pc) (R := ab_R1) rfl h).trans rfl, List.forall_mem_cons.mpr ⟨fun pc cc p h => (ab_bd1 (D := Jvm.ClassFile.Decoder.instr pc) (R := ab_R1) rfl h).trans rfl, List.forall_mem_cons.mpr ⟨fun pc cc p h => (ab_bd1 (D := Jvm.ClassFile.Decoder.instr pc) (R := ab_R1) rfl h).trans rfl, List.forall_mem_cons.mpr ⟨fun pc cc p h => (ab_bd1 (D := Jvm.ClassFile.Decoder.instr pc) (R := ab_R1) rfl h).trans rfl, List.forall_mem_cons.mpr ⟨fun pc cc p h => (ab_bd1 (D := Jvm.ClassFile.Decoder.instr pc) (R := ab_R1) rfl h).trans rfl, List.forall_mem_cons.mpr ⟨fun pc cc p h => (ab_bd1 (D := Jvm.ClassFile.Decoder.instr pc) (R := ab_R1) rfl h).trans rfl, List.forall_mem_cons.mpr ⟨fun pc cc p h => (ab_bd1 (D := Jvm.ClassFile.Decoder.instr pc) (R := ab_R1) rfl h).trans rfl, List.forall_mem_cons.mpr ⟨fun pc cc p h => (ab_bd1 (D := Jvm.ClassFile.Decoder.instr pc) (R := ab_R1) rfl h).trans rfl, List.forall_mem_cons.mpr ⟨fun pc cc p h => (ab_bd1 (D := Jvm.ClassFile.Decoder.instr pc) (R := ab_R1) rfl h).trans rfl, List.forall_mem_cons.mpr ⟨fun pc cc p h => (ab_bd1 (D := Jvm.ClassFile.Decoder.instr pc) (R := ab_R1) rfl h).trans rfl, List.forall_mem_cons.mpr ⟨fun pc cc p h => (ab_bd1 (D := Jvm.ClassFile.Decoder.instr pc) (R := ab_R1) rfl h).trans rfl, List.forall_mem_cons.mpr ⟨fun pc cc p h => (ab_bd1 (D := Jvm.ClassFile.Decoder.instr pc) (R := ab_R1) rfl h).trans rfl, List.forall_mem_cons.mpr ⟨fun pc cc p h => (ab_bd1 (D := Jvm.ClassFile.Decoder.instr pc) (R := ab_R1) rfl h).trans rfl, List.forall_mem_cons.mpr ⟨fun pc cc p h => (ab_bd1 (D := Jvm.ClassFile.Decoder.instr pc) (R := ab_R1) rfl h).trans rfl, List.forall_mem_cons.mpr ⟨fun pc cc p h => (ab_bd1 (D := Jvm.ClassFile.Decoder.instr pc) (R := ab_R1) rfl h).trans rfl, List.forall_mem_cons.mpr ⟨fun pc cc p h => (ab_bd1 (D := Jvm.ClassFile.Decoder.instr pc) (R := ab_R1) rfl h).trans rfl, List.forall_mem_cons.mpr ⟨fun pc cc p h => (ab_bd1 (D := Jvm.ClassFile.Decoder.instr pc) (R := ab_R1) rfl h).trans rfl, List.forall_mem_cons.mpr ⟨fun pc cc p h => (ab_bd1 (D := Jvm.ClassFile.Decoder.instr pc) (R := ab_R1) rfl h).trans rfl, List.forall_mem_cons.mpr ⟨fun pc cc p h => (ab_bd1 (D := Jvm.ClassFile.Decoder.instr pc) (R := ab_R1) rfl h).trans rfl, List.forall_mem_cons.mpr ⟨fun pc cc p h => (ab_bd1 (D := Jvm.ClassFile.Decoder.instr pc) (R := ab_R1) rfl h).trans rfl, List.forall_mem_cons.mpr ⟨fun pc cc p h => (ab_bd1 (D := Jvm.ClassFile.Decoder.instr pc) (R := ab_R1) rfl h).trans rfl, List.forall_mem_cons.mpr ⟨fun pc cc p h => (ab_bd1 (D := Jvm.ClassFile.Decoder.instr pc) (R := ab_R1) rfl h).trans rfl, List.forall_mem_cons.mpr ⟨fun pc cc p h => (ab_bd1 (D := Jvm.ClassFile.Decoder.instr pc) (R := ab_R1) rfl h).trans rfl, List.forall_mem_cons.mpr ⟨fun pc cc p h => (ab_bd1 (D := Jvm.ClassFile.Decoder.instr pc) (R := ab_R1) rfl h).trans rfl, List.forall_mem_cons.mpr ⟨fun pc cc p h => (ab_bd1 (D := Jvm.ClassFile.Decoder.instr pc) (R := ab_R1) rfl h).trans rfl, List.forall_mem_cons.mpr ⟨fun pc cc p h => (ab_bd1 (D := Jvm.ClassFile.Decoder.instr pc) (R := ab_R1) rfl h).trans rfl, List.forall_mem_cons.mpr ⟨fun pc cc p h => (ab_bd1 (D := Jvm.ClassFile.Decoder.instr pc) (R := ab_R1) rfl h).trans rfl, List.forall_mem_cons.mpr ⟨fun pc cc p h => (ab_bd1 (D := Jvm.ClassFile.Decoder.instr pc) (R := ab_R1) rfl h).trans rfl, List.forall_mem_cons.mpr ⟨fun pc cc p h => (ab_bd1 (D := Jvm.ClassFile.Decoder.instr pc) (R := ab_R1) rfl h).trans rfl, List.forall_mem_cons.mpr ⟨fun pc cc p h => (ab_bd1 (D := Jvm.ClassFile.Decoder.instr pc) (R := ab_R1) rfl h).trans rfl, List.forall_mem_cons.mpr ⟨fun pc cc p h => (ab_bd1 (D := Jvm.ClassFile.Decoder.instr pc) (R := ab_R1) rfl h).trans rfl, List.forall_mem_cons.mpr ⟨fun pc cc p h => (ab_bd1 (D := Jvm.ClassFile.Decoder.instr pc) (R := ab_R1) rfl h).trans rfl, List.forall_mem_cons.mpr ⟨fun pc cc p h => (ab_bd1 (D := Jvm.ClassFile.Decoder.instr pc) (R := ab_R1) rfl h).trans rfl, List.forall_mem_cons.mpr ⟨fun pc cc p h => (ab_bd1 (D := Jvm.ClassFile.Decoder.instr pc) (R := ab_R1) rfl h).trans rfl, List.forall_mem_cons.mpr ⟨fun pc cc p h => (ab_bd1 (D := Jvm.ClassFile.Decoder.instr pc) (R := ab_R1) rfl h).trans rfl, List.forall_mem_cons.mpr ⟨fun pc cc p h => (ab_bd1 (D := Jvm.ClassFile.Decoder.instr pc) (R := ab_R1) rfl h).trans rfl, List.forall_mem_cons.mpr ⟨fun pc cc p h => (ab_bd1 (D := Jvm.ClassFile.Decoder.instr pc) (R := ab_R1) rfl h).trans rfl, List.forall_mem_cons.mpr ⟨fun pc cc p h => (ab_bd1 (D := Jvm.ClassFile.Decoder.instr pc) (R := ab_R1) rfl h).trans rfl, List.forall_mem_cons.mpr ⟨fun pc cc p h => (ab_bd1 (D := Jvm.ClassFile.Decoder.instr pc) (R := ab_R1) rfl h).trans rfl, List.forall_mem_cons.mpr ⟨fun pc cc p h => (ab_bd1 (D := Jvm.ClassFile.Decoder.instr pc) (R := ab_R1) rfl h).trans rfl, List.forall_mem_cons.mpr ⟨fun pc cc p h => (ab_bd1 (D := Jvm.ClassFile.Decoder.instr pc) (R := ab_R1) rfl h).trans rfl, List.forall_mem_cons.mpr ⟨fun pc cc p h => (ab_bd1 (D := Jvm.ClassFile.Decoder.instr pc) (R := ab_R1) rfl h).trans rfl, List.forall_mem_cons.mpr ⟨fun pc cc p h => (ab_bd1 (D := Jvm.ClassFile.Decoder.instr pc) (R := ab_R1) rfl h).trans rfl, List.forall_mem_cons.mpr ⟨fun pc cc p h => (ab_bd1 (D := Jvm.ClassFile.Decoder.instr pc) (R := ab_R1) rfl h).trans rfl, List.forall_mem_cons.mpr ⟨fun pc cc p h => (ab_bd1 (D := Jvm.ClassFile.Decoder.instr pc) (R := ab_R1) rfl h).trans rfl, List.forall_mem_cons.mpr ⟨fun pc cc p h => (ab_bd1 (D := Jvm.ClassFile.Decoder.instr pc) (R := ab_R1) rfl h).trans rfl, List.forall_mem_cons.mpr ⟨fun pc cc p h => (ab_bd1 (D := Jvm.ClassFile.Decoder.instr pc) (R := ab_R1) rfl h).trans rfl, List.forall_mem_cons.mpr ⟨fun pc cc p h => (ab_bd1 (D := Jvm.ClassFile.Decoder.instr pc) (R := ab_R1) rfl h).trans rfl, List.forall_mem_cons.mpr ⟨fun pc cc p h => (ab_bd1 (D := Jvm.ClassFile.Decoder.instr pc) (R := ab_R1) rfl h).trans rfl, List.forall_mem_cons.mpr ⟨fun pc cc p h => (ab_bd1 (D := Jvm.ClassFile.Decoder.instr pc) (R := ab_R1) rfl h).trans rfl, List.forall_mem_cons.mpr ⟨fun pc cc p h => (ab_bd1 (D := Jvm.ClassFile.Decoder.instr pc) (R := ab_R1) rfl h).trans rfl, List.forall_mem_cons.mpr ⟨fun pc cc p h => (ab_bd1 (D := Jvm.ClassFile.Decoder.instr pc) (R := ab_R1) rfl h).trans rfl, List.forall_mem_cons.mpr ⟨fun pc cc p h => (ab_bd1 (D := Jvm.ClassFile.Decoder.instr pc) (R := ab_R1) rfl h).trans rfl, List.forall_mem_cons.mpr ⟨fun pc cc p h => (ab_bd1 (D := Jvm.ClassFile.Decoder.instr pc) (R := ab_R1) rfl h).trans rfl, List.forall_mem_cons.mpr ⟨fun pc cc p h => (ab_bd1 (D := Jvm.ClassFile.Decoder.instr pc) (R := ab_R1) rfl h).trans rfl, List.forall_mem_cons.mpr ⟨fun pc cc p h => (ab_bd1 (D := Jvm.ClassFile.Decoder.instr pc) (R := ab_R1) rfl h).trans rfl, List.forall_mem_cons.mpr ⟨fun pc cc p h => (ab_bd1 (D := Jvm.ClassFile.Decoder.instr pc) (R := ab_R1) rfl h).trans rfl, List.forall_mem_cons.mpr ⟨fun pc cc p h => (ab_bd1 (D := Jvm.ClassFile.Decoder.instr pc) (R := ab_R1) rfl h).trans rfl, List.forall_mem_cons.mpr ⟨fun pc cc p h => (ab_bd1 (D := Jvm.ClassFile.Decoder.instr pc) (R := ab_R1) rfl h).trans rfl, List.forall_mem_cons.mpr ⟨fun pc cc p h => (ab_bd1 (D := Jvm.ClassFile.Decoder.instr pc) (R := ab_R1) rfl h).trans rfl, List.forall_mem_cons.mpr ⟨fun pc cc p h => (ab_bd1 (D := Jvm.ClassFile.Decoder.instr pc) (R := ab_R1) rfl h).trans rfl, List.forall_mem_cons.mpr ⟨fun pc cc p h => (ab_bd1 (D := Jvm.ClassFile.Decoder.instr pc) (R := ab_R1) rfl h).trans rfl, List.forall_mem_cons.mpr ⟨fun pc cc p h => (ab_bd1 (D := Jvm.ClassFile.Decoder.instr pc) (R := ab_R1) rfl h).trans rfl, List.forall_mem_cons.mpr ⟨fun pc cc p h => (ab_bd1 (D := Jvm.ClassFile.Decoder.instr pc) (R := ab_R1) rfl h).trans rfl, List.forall_mem_cons.mpr ⟨fun pc cc p h => (ab_bd1 (D := Jvm.ClassFile.Decoder.instr pc) (R := ab_R1) rfl h).trans rfl, List.forall_mem_cons.mpr ⟨fun pc cc p h => (ab_bd1 (D := Jvm.ClassFile.Decoder.instr pc) (R := ab_R1) rfl h).trans rfl, List.forall_mem_cons.mpr ⟨fun pc cc p h => (ab_bd1 (D := Jvm.ClassFile.Decoder.instr pc) (R := ab_R1) rfl h).trans rfl, List.forall_mem_cons.mpr ⟨fun pc cc p h => (ab_bd1 (D := Jvm.ClassFile.Decoder.instr pc) (R := ab_R1) rfl h).trans rfl, List.forall_mem_cons.mpr ⟨fun pc cc p h => (ab_bd1 (D := Jvm.ClassFile.Decoder.instr pc) (R := ab_R1) rfl h).trans rfl, List.forall_mem_cons.mpr ⟨fun pc cc p h => (ab_bd1 (D := Jvm.ClassFile.Decoder.instr pc) (R := ab_R1) rfl h).trans rfl, List.forall_mem_cons.mpr ⟨fun pc cc p h => (ab_bd1 (D := Jvm.ClassFile.Decoder.instr pc) (R := ab_R1) rfl h).trans rfl, List.forall_mem_cons.mpr ⟨fun pc cc p h => (ab_bd1 (D := Jvm.ClassFile.Decoder.instr pc) (R := ab_R1) rfl h).trans rfl, List.forall_mem_cons.mpr ⟨fun pc cc p h => (ab_bd1 (D := Jvm.ClassFile.Decoder.instr pc) (R := ab_R1) rfl h).trans rfl, List.forall_mem_cons.mpr ⟨fun pc cc p h => (ab_bd1 (D := Jvm.ClassFile.Decoder.instr pc) (R := ab_R1) rfl h).trans rfl, List.forall_mem_cons.mpr ⟨fun pc cc p h => (ab_bd1 (D := Jvm.ClassFile.Decoder.instr pc) (R := ab_R1) rfl h).trans rfl, List.forall_mem_cons.mpr ⟨fun pc cc p h => (ab_bd1 (D := Jvm.ClassFile.Decoder.instr pc) (R := ab_R1) rfl h).trans rfl, List.forall_mem_cons.mpr ⟨fun pc cc p h => (ab_bd1 (D := Jvm.ClassFile.Decoder.instr pc) (R := ab_R1) rfl h).trans rfl, List.forall_mem_cons.mpr ⟨fun pc cc p h => (ab_bd1 (D := Jvm.ClassFile.Decoder.instr pc) (R := ab_R1) rfl h).trans rfl, List.forall_mem_cons.mpr ⟨fun pc cc p h => (ab_bd1 (D := Jvm.ClassFile.Decoder.instr pc) (R := ab_R1) rfl h).trans rfl, List.forall_mem_cons.mpr ⟨fun pc cc p h => (ab_bd1 (D := Jvm.ClassFile.Decoder.instr pc) (R := ab_R1) rfl h).trans rfl, List.forall_mem_cons.mpr ⟨fun pc cc p h => (ab_bd1 (D := Jvm.ClassFile.Decoder.instr pc) (R := ab_R1) rfl h).trans rfl, List.forall_mem_cons.mpr ⟨fun pc cc p h => (ab_bd1 (D := Jvm.ClassFile.Decoder.instr pc) (R := ab_R1) rfl h).trans rfl, List.forall_mem_cons.mpr ⟨fun pc cc p h => (ab_bd1 (D := Jvm.ClassFile.Decoder.instr pc) (R := ab_R1) rfl h).trans rfl, List.forall_mem_cons.mpr ⟨fun pc cc p h => (ab_bd1 (D := Jvm.ClassFile.Decoder.instr pc) (R := ab_R1) rfl h).trans rfl, List.forall_mem_cons.mpr ⟨fun pc cc p h => (ab_bd1 (D := Jvm.ClassFile.Decoder.instr pc) (R := ab_R1) rfl h).trans rfl, List.forall_mem_cons.mpr ⟨fun pc cc p h => (ab_bd1 (D := Jvm.ClassFile.Decoder.instr pc) (R := ab_R1) rfl h).trans rfl, List.forall_mem_cons.mpr ⟨fun pc cc p h => (ab_bd1 (D := Jvm.ClassFile.Decoder.instr pc) (R := ab_R1) rfl h).trans rfl, List.forall_mem_cons.mpr ⟨fun pc cc p h => (ab_bd1 (D := Jvm.ClassFile.Decoder.instr pc) (R := ab_R1) rfl h).trans rfl, List.forall_mem_cons.mpr ⟨fun pc cc p h => (ab_bd1 (D := Jvm.ClassFile.Decoder.instr pc) (R := ab_R1) rfl h).trans rfl, List.forall_mem_cons.mpr ⟨fun pc cc p h => (ab_bd1 (D := Jvm.ClassFile.Decoder.instr pc) (R := ab_R1) rfl h).trans rfl, List.forall_mem_cons.mpr ⟨fun pc cc p h => (ab_bd1 (D := Jvm.ClassFile.Decoder.instr pc) (R := ab_R1) rfl h).trans rfl, List.forall_mem_cons.mpr ⟨fun pc cc p h => (ab_bd1 (D := Jvm.ClassFile.Decoder.instr pc) (R := ab_R1) rfl h).trans rfl, List.forall_mem_cons.mpr ⟨fun pc cc p h => (ab_bd1 (D := Jvm.ClassFile.Decoder.instr pc) (R := ab_R1) rfl h).trans rfl, List.forall_mem_cons.mpr ⟨fun pc cc p h => (ab_bd1 (D := Jvm.ClassFile.Decoder.instr pc) (R := ab_R1) rfl h).trans rfl, List.forall_mem_cons.mpr ⟨fun pc cc p h => (ab_bd1 (D := Jvm.ClassFile.Decoder.instr pc) (R := ab_R1) rfl h).trans rfl, List.forall_mem_cons.mpr ⟨fun pc cc p h => (ab_bd1 (D := Jvm.ClassFile.Decoder.instr pc) (R := ab_R1) rfl h).trans rfl, List.forall_mem_cons.mpr ⟨fun pc cc p h => (ab_bd1 (D := Jvm.ClassFile.Decoder.instr pc) (R := ab_R1) rfl h).trans rfl, List.forall_mem_cons.mpr ⟨fun pc cc p h => (ab_bd1 (D := Jvm.ClassFile.Decoder.instr pc) (R := ab_R1) rfl h).trans rfl, List.forall_mem_cons.mpr ⟨fun pc cc p h => (ab_bd1 (D := Jvm.ClassFile.Decoder.instr pc) (R := ab_R1) rfl h).trans rfl, List.forall_mem_cons.mpr ⟨fun pc cc p h => (ab_bd1 (D := Jvm.ClassFile.Decoder.instr pc) (R := ab_R1) rfl h).trans rfl, List.forall_mem_cons.mpr ⟨fun pc cc p h => (ab_bd1 (D := Jvm.ClassFile.Decoder.instr pc) (R := ab_R1) rfl h).trans rfl, List.forall_mem_cons.mpr ⟨fun pc cc p h => (ab_bd1 (D := Jvm.ClassFile.Decoder.instr pc) (R := ab_R1) rfl h).trans rfl, List.forall_mem_cons.mpr ⟨fun pc cc p h => (ab_bd1 (D := Jvm.ClassFile.Decoder.instr pc) (R := ab_R1) rfl h).trans rfl, List.forall_mem_cons.mpr ⟨fun pc cc p h => (ab_bd1 (D := Jvm.ClassFile.Decoder.instr pc) (R := ab_R1) rfl h).trans rfl, List.forall_mem_cons.mpr ⟨fun pc cc p h => (ab_bd1 (D := Jvm.ClassFile.Decoder.instr pc) (R := ab_R1) rfl h).trans rfl, List.forall_mem_cons.mpr ⟨fun pc cc p h => (ab_bd1 (D := Jvm.ClassFile.Decoder.instr pc) (R := ab_R1) rfl h).trans rfl, List.forall_mem_cons.mpr ⟨fun pc cc p h => (ab_bd1 (D := Jvm.ClassFile.Decoder.instr pc) (R := ab_R1) rfl h).trans rfl, List.forall_mem_cons.mpr ⟨fun pc cc p h => (ab_bd1 (D := Jvm.ClassFile.Decoder.instr pc) (R := ab_R1) rfl h).trans rfl, List.forall_mem_cons.mpr ⟨fun pc cc p h => (ab_bd1 (D := Jvm.ClassFile.Decoder.instr pc) (R := ab_R1) rfl h).trans rfl, List.forall_mem_cons.mpr ⟨fun pc cc p h => (ab_bd1 (D := Jvm.ClassFile.Decoder.instr pc) (R := ab_R1) rfl h).trans rfl, List.forall_mem_cons.mpr ⟨fun pc cc p h => (ab_bd1 (D := Jvm.ClassFile.Decoder.instr pc) (R := ab_R1) rfl h).trans rfl, List.forall_mem_cons.mpr ⟨fun pc cc p h => (ab_bd1 (D := Jvm.ClassFile.Decoder.instr pc) (R := ab_R1) rfl h).trans rfl, List.forall_mem_cons.mpr ⟨fun pc cc p h => (ab_bd1 (D := Jvm.ClassFile.Decoder.instr pc) (R := ab_R1) rfl h).trans rfl, List.forall_mem_cons.mpr ⟨fun pc cc p h => (ab_bd1 (D := Jvm.ClassFile.Decoder.instr pc) (R := ab_R1) rfl h).trans rfl, fun _ h => absurd h List.not_mem_nil⟩⟩⟩⟩⟩⟩⟩⟩⟩⟩⟩⟩⟩⟩⟩⟩⟩⟩⟩⟩⟩⟩⟩⟩⟩⟩⟩⟩⟩⟩⟩⟩⟩⟩⟩⟩⟩⟩⟩⟩⟩⟩⟩⟩⟩⟩⟩⟩⟩⟩⟩⟩⟩⟩⟩⟩⟩⟩⟩⟩⟩⟩⟩⟩⟩⟩⟩⟩⟩⟩⟩⟩⟩⟩⟩⟩⟩⟩⟩⟩⟩⟩⟩⟩⟩⟩⟩⟩⟩⟩⟩⟩⟩⟩⟩⟩⟩⟩⟩⟩⟩⟩⟩⟩⟩⟩⟩⟩⟩⟩⟩⟩⟩⟩⟩⟩⟩⟩⟩⟩⟩
theorem ab_dc_ok {cc : ByteArray} {pc len : Nat} {ins : Instr} (h : ab_dc (cc.data.toList.drop pc) = some (ins, len)) : decode cc pc = .ok (ins, len) := by
  unfold ab_dc at h
  split at h
  · cases h
  · rename_i b r hb
    split at h
    · rename_i k hk
      have h1 := ab_tab_ok _ (ab_fd_mem _ _ _ hk) pc cc pc (ab_u1 hb)
      rw [← ab_dropS hb] at h
      have h2 := ab_rd_ok h
      show Except.bind (Jvm.ClassFile.Decoder.instr pc cc pc) (fun q => .ok (q.1, q.2 - pc)) = _
      rw [h1, h2]
      show Except.ok (ins, pc + 1 + len - 1 - pc) = _
      rw [show pc + 1 + len - 1 - pc = len by omega]
    · cases h
/-- a row of places, and the rows behind it, against the bytes -/
def ab_wk (md : ab_D) (q : ab_I → Bool) : Nat → List UInt8 → List (Option ab_I) → Bool
  | _, _, [] => true
  | pc, b, none :: es => ab_wk md q (pc + 1) b.tail es
  | pc, b, some x :: es => (match ab_dc b with
    | some z => decide (z = (x.1, x.2.1))
    | none => decide (decode md.2.1 pc = .ok (x.1, x.2.1))) && (q x && ab_wk md q (pc + 1) b.tail es)
def ab_wr (md : ab_D) (q : ab_I → Bool) : Nat → List UInt8 → List (List (Option ab_I)) → Bool
  | _, _, [] => true
  | pc, b, row :: rs => ab_wk md q pc b row && ab_wr md q (pc + 16) (b.drop 16) rs
theorem ab_wk_ok (md : ab_D) (q : ab_I → Bool) : ∀ (row : List (Option ab_I)) (pc : Nat) (b : List UInt8), b = md.2.1.data.toList.drop pc → ab_wk md q pc b row = true → ∀ (i : Nat) (x : ab_I), row[i]? = some (some x) → decode md.2.1 (pc + i) = .ok (x.1, x.2.1) ∧ q x = true
  | [], pc, b, hb, h, i, x, hx => by cases hx
  | none :: es, pc, b, hb, h, i, x, hx => by
    match i, hx with
    | 0, hx => cases hx
    | i + 1, hx =>
      have := ab_wk_ok md q es (pc + 1) b.tail (by rw [hb, List.tail_drop]) h i x hx
      rw [show pc + (i + 1) = pc + 1 + i by omega]
      exact this
  | some y :: es, pc, b, hb, h, i, x, hx => by
    unfold ab_wk at h
    rw [Bool.and_eq_true, Bool.and_eq_true] at h
    obtain ⟨h1, h2, h3⟩ := h
    match i, hx with
    | 0, hx =>
      cases hx
      refine ⟨?_, h2⟩
      split at h1
      · rename_i z hz
        have := of_decide_eq_true h1
        subst this
        rw [hb] at hz
        exact ab_dc_ok hz
      · exact of_decide_eq_true h1
    | i + 1, hx =>
      have := ab_wk_ok md q es (pc + 1) b.tail (by rw [hb, List.tail_drop]) h3 i x hx
      rw [show pc + (i + 1) = pc + 1 + i by omega]
      exact this
theorem ab_wr_ok (md : ab_D) (q : ab_I → Bool) : ∀ (rows : List (List (Option ab_I))) (pc : Nat) (b : List UInt8), b = md.2.1.data.toList.drop pc → ab_wr md q pc b rows = true → ∀ (t : Nat) (row : List (Option ab_I)), rows[t]? = some row → ∀ (i : Nat) (x : ab_I), row[i]? = some (some x) → decode md.2.1 (pc + 16 * t + i) = .ok (x.1, x.2.1) ∧ q x = true
  | [], pc, b, hb, h, t, row, hr => by cases hr
  | r0 :: rs, pc, b, hb, h, t, row, hr => by
    unfold ab_wr at h
    rw [Bool.and_eq_true] at h
    match t, hr with
    | 0, hr =>
      cases hr
      exact ab_wk_ok md q _ pc b hb h.1
    | t + 1, hr =>
      have := ab_wr_ok md q rs (pc + 16) (b.drop 16) (by rw [hb, List.drop_drop]) h.2 t row hr
      rw [show pc + 16 * (t + 1) = pc + 16 + 16 * t by omega]
      exact this
