/-! texts that stay: String constants, length, charAt; by program (wip/tools/text.py) -/
def tx_len : MethodName := ⟨"java/lang/String", "length", "()I"⟩
abbrev tx_lenC : ByteArray := prog_11_method_54_code
def tx_chr : MethodName := ⟨"java/lang/String", "charAt", "(I)C"⟩
abbrev tx_chrC : ByteArray := prog_11_method_56_code
def tx_cod : MethodName := ⟨"java/lang/String", "coder", "()B"⟩
abbrev tx_codC : ByteArray := prog_11_method_152_code
def tx_lat : MethodName := ⟨"java/lang/String", "isLatin1", "()Z"⟩
abbrev tx_latC : ByteArray := prog_11_method_154_code
def tx_chk : MethodName := ⟨"java/lang/String", "checkIndex", "(II)V"⟩
abbrev tx_chkC : ByteArray := prog_11_method_155_code
def tx_lch : MethodName := ⟨"java/lang/StringLatin1", "charAt", "([BI)C"⟩
abbrev tx_lchC : ByteArray := prog_12_method_2_code
def tx_pre : MethodName := ⟨"jdk/internal/util/Preconditions", "checkIndex", "(IILjava/util/function/BiFunction;)I"⟩
abbrev tx_preC : ByteArray := prog_16_method_11_code
def tx_codW : List Jvm.Cond := .code tx_cod tx_codC 1 (some .byte) :: [.fieldLink "java/lang/String" 38 "java/lang/String" "COMPACT_STRINGS" "Z", .fieldLink "java/lang/String" 15 "java/lang/String" "coder" "B"]
def tx_latW : List Jvm.Cond := .code tx_lat tx_latC 1 (some .boolean) :: [.fieldLink "java/lang/String" 38 "java/lang/String" "COMPACT_STRINGS" "Z", .fieldLink "java/lang/String" 15 "java/lang/String" "coder" "B"]
def tx_preW : List Jvm.Cond := .code tx_pre tx_preC 3 (some .int) :: []
def tx_lenW : List Jvm.Cond := .code tx_len tx_lenC 1 (some .int) :: [.fieldLink "java/lang/String" 9 "java/lang/String" "value" "[B", .methodLink "java/lang/String" 335 tx_cod, .instanceMethod tx_cod, .selects "java/lang/String" tx_cod tx_cod, .initialized "java/lang/String", .code tx_cod tx_codC 1 (some .byte), .fieldLink "java/lang/String" 38 "java/lang/String" "COMPACT_STRINGS" "Z", .fieldLink "java/lang/String" 15 "java/lang/String" "coder" "B"]
def tx_chkW : List Jvm.Cond := .code tx_chk tx_chkC 2 none :: [.fieldLink "java/lang/String" 1053 "jdk/internal/util/Preconditions" "SIOOBE_FORMATTER" "Ljava/util/function/BiFunction;", .methodLink "java/lang/String" 1059 tx_pre, .static tx_pre, .initialized "jdk/internal/util/Preconditions", .code tx_pre tx_preC 3 (some .int)]
def tx_lchW : List Jvm.Cond := .code tx_lch tx_lchC 2 (some .char) :: [.methodLink "java/lang/StringLatin1" 9 tx_chk, .static tx_chk, .initialized "java/lang/String", .code tx_chk tx_chkC 2 none, .fieldLink "java/lang/String" 1053 "jdk/internal/util/Preconditions" "SIOOBE_FORMATTER" "Ljava/util/function/BiFunction;", .methodLink "java/lang/String" 1059 tx_pre, .static tx_pre, .initialized "jdk/internal/util/Preconditions", .code tx_pre tx_preC 3 (some .int)]
def tx_chrW : List Jvm.Cond := .code tx_chr tx_chrC 2 (some .char) :: [.fieldLink "java/lang/String" 9 "java/lang/String" "value" "[B", .methodLink "java/lang/String" 492 tx_lat, .instanceMethod tx_lat, .selects "java/lang/String" tx_lat tx_lat, .initialized "java/lang/String", .code tx_lat tx_latC 1 (some .boolean), .fieldLink "java/lang/String" 38 "java/lang/String" "COMPACT_STRINGS" "Z", .fieldLink "java/lang/String" 15 "java/lang/String" "coder" "B", .methodLink "java/lang/String" 495 tx_lch, .static tx_lch, .initialized "java/lang/StringLatin1", .code tx_lch tx_lchC 2 (some .char), .methodLink "java/lang/StringLatin1" 9 tx_chk, .static tx_chk, .initialized "java/lang/String", .code tx_chk tx_chkC 2 none, .fieldLink "java/lang/String" 1053 "jdk/internal/util/Preconditions" "SIOOBE_FORMATTER" "Ljava/util/function/BiFunction;", .methodLink "java/lang/String" 1059 tx_pre, .static tx_pre, .initialized "jdk/internal/util/Preconditions", .code tx_pre tx_preC 3 (some .int)]
def tx_B : List (List Int32) := [[112, 105, 101, 99, 101], [112, 101, 114, 115, 111, 110], [99, 111, 115, 116], [104, 97, 115], [98, 97, 99, 107], [103, 114, 101, 101, 100, 121], [98, 101, 115, 116]]
def tx_N : List Nat := [5, 6, 4, 3, 4, 6, 4]
/-- the constants: class, entry, text, number -/
def tx_R : List (String × Nat × String × Nat) := [("FountainGivesChange$Reader", 123, "piece", 0), ("FountainGivesChange$Reader", 125, "person", 1), ("FountainGivesChange$Reader", 127, "cost", 2), ("FountainGivesChange$Reader", 128, "has", 3), ("FountainGivesChange$Reader", 130, "back", 4), ("FountainGivesChange$Reader", 132, "greedy", 5), ("FountainGivesChange$Reader", 134, "best", 6)]
def tx_V (i k : Nat) : Int32 := (((tx_B.getD i []).getD k 0 &&& 255).toUInt32 % 65536).toInt32
def tx_S (adK : Nat → Nat) (A : Nat → Prop) (U : State) (H : Heap) : Prop := (∃ adV : Nat → Nat, vk_S 7 tx_N tx_B adK adV A U H) ∧ va_Z "java/lang/String" "COMPACT_STRINGS" "Z" (.int 1) A U H ∧ va_Zq "jdk/internal/util/Preconditions" "SIOOBE_FORMATTER" "Ljava/util/function/BiFunction;" A U H
theorem tx_S.go {adK : Nat → Nat} {A B : Nat → Prop} {u U : State} {H H1 : Heap} (h : tx_S adK A u H) (hq : ∀ a : Nat, a < H.size → ¬ A a → H1[a]? = H[a]?) (hvm : u.vm.Alike U.vm) (hAB : ∀ q, B q → A q) : tx_S adK B U H1 := by
  obtain ⟨⟨adV, h1⟩, h2, h3⟩ := h
  exact ⟨⟨adV, ((h1.kept hq).moved hvm).narrow hAB⟩, ((h2.kept hq).moved hvm).narrow hAB, ((h3.kept hq).moved hvm).narrow hAB⟩
def tx_Pc (adK : Nat → Nat) (sz : Nat) (av : List Value) : Array Value → State → Prop := va_Pc av (fun U => U.heap.size = sz ∧ tx_S adK (va_A [] sz) U U.heap)
theorem tx_blind {adK : Nat → Nat} {sz : Nat} {av : List Value} : FrameBlind (tx_Pc adK sz av) := fun a U g mk q => by
  obtain ⟨q0, q1, q2⟩ := q
  exact ⟨q0, q1, q2.go (U := U.calling g mk a) (fun _ _ _ => rfl) (Vm.Alike.refl U.vm) (fun _ h => h)⟩
/-- a text's bytes, what checkIndex reads -/
def tx_Qc (t N : Nat) (f : Nat → Int32) (sz : Nat) (av : List Value) : Array Value → State → Prop := va_Pc av (fun U => U.heap.size = sz ∧ va_T .byte t N (fun j => .int (f j)) (va_A [] sz) U U.heap ∧ va_Zq "jdk/internal/util/Preconditions" "SIOOBE_FORMATTER" "Ljava/util/function/BiFunction;" (va_A [] sz) U U.heap)
theorem tx_blindQ {t N : Nat} {f : Nat → Int32} {sz : Nat} {av : List Value} : FrameBlind (tx_Qc t N f sz av) := fun a U g mk q => by
  obtain ⟨q0, q1, q2, q3⟩ := q
  exact ⟨q0, q1, q2.moved (U := U.calling g mk a) (Vm.Alike.refl U.vm), q3.moved (U := U.calling g mk a) (Vm.Alike.refl U.vm)⟩
def tx_Zc (sz : Nat) (av : List Value) : Array Value → State → Prop := va_Pc av (fun U => U.heap.size = sz ∧ va_Zq "jdk/internal/util/Preconditions" "SIOOBE_FORMATTER" "Ljava/util/function/BiFunction;" (va_A [] sz) U U.heap)
theorem tx_blindZ {sz : Nat} {av : List Value} : FrameBlind (tx_Zc sz av) := fun a U g mk q => by
  obtain ⟨q0, q1, q2⟩ := q
  exact ⟨q0, q1, q2.moved (U := U.calling g mk a) (Vm.Alike.refl U.vm)⟩
def tx_Oc (sz : Nat) (av : List Value) : Array Value → State → Prop := va_Pc av (fun U => U.heap.size = sz)
theorem tx_blindO {sz : Nat} {av : List Value} : FrameBlind (tx_Oc sz av) := fun a U g mk q => by
  obtain ⟨q0, q1⟩ := q
  exact ⟨q0, q1⟩
theorem tx_keep {A : Nat → Prop} {sz : Nat} (hA : ∀ q, sz ≤ q → A q) : ∀ q, va_A [] sz q → A q := fun q h => by
  rcases h with ⟨k, e, h⟩ | h
  · cases h
  · exact hA q h
theorem tx_not {sz q : Nat} (h : q < sz) : ¬ va_A [] sz q := fun z => by
  rcases z with ⟨k, e, z⟩ | z
  · cases z
  · omega
theorem tx_len_0 : decode tx_lenC 0 = .ok (.aload_n 0, 1) := by decide +kernel
theorem tx_len_1 : decode tx_lenC 1 = .ok (.getfield 9, 3) := by decide +kernel
theorem tx_len_4 : decode tx_lenC 4 = .ok (.arraylength, 1) := by decide +kernel
theorem tx_len_5 : decode tx_lenC 5 = .ok (.aload_n 0, 1) := by decide +kernel
theorem tx_len_6 : decode tx_lenC 6 = .ok (.invokevirtual 335, 3) := by decide +kernel
theorem tx_len_9 : decode tx_lenC 9 = .ok (.ishr, 1) := by decide +kernel
theorem tx_len_10 : decode tx_lenC 10 = .ok (.ireturn, 1) := by decide +kernel
theorem tx_chr_0 : decode tx_chrC 0 = .ok (.aload_n 0, 1) := by decide +kernel
theorem tx_chr_1 : decode tx_chrC 1 = .ok (.invokevirtual 492, 3) := by decide +kernel
theorem tx_chr_4 : decode tx_chrC 4 = .ok (.ifCond .eq 12, 3) := by decide +kernel
theorem tx_chr_7 : decode tx_chrC 7 = .ok (.aload_n 0, 1) := by decide +kernel
theorem tx_chr_8 : decode tx_chrC 8 = .ok (.getfield 9, 3) := by decide +kernel
theorem tx_chr_11 : decode tx_chrC 11 = .ok (.iload_n 1, 1) := by decide +kernel
theorem tx_chr_12 : decode tx_chrC 12 = .ok (.invokestatic 495, 3) := by decide +kernel
theorem tx_chr_15 : decode tx_chrC 15 = .ok (.ireturn, 1) := by decide +kernel
theorem tx_chr_16 : decode tx_chrC 16 = .ok (.aload_n 0, 1) := by decide +kernel
theorem tx_chr_17 : decode tx_chrC 17 = .ok (.getfield 9, 3) := by decide +kernel
theorem tx_chr_20 : decode tx_chrC 20 = .ok (.iload_n 1, 1) := by decide +kernel
theorem tx_chr_21 : decode tx_chrC 21 = .ok (.invokestatic 498, 3) := by decide +kernel
theorem tx_chr_24 : decode tx_chrC 24 = .ok (.ireturn, 1) := by decide +kernel
theorem tx_cod_0 : decode tx_codC 0 = .ok (.getstatic 38, 3) := by decide +kernel
theorem tx_cod_3 : decode tx_codC 3 = .ok (.ifCond .eq 10, 3) := by decide +kernel
theorem tx_cod_6 : decode tx_codC 6 = .ok (.aload_n 0, 1) := by decide +kernel
theorem tx_cod_7 : decode tx_codC 7 = .ok (.getfield 15, 3) := by decide +kernel
theorem tx_cod_10 : decode tx_codC 10 = .ok (.goto 4, 3) := by decide +kernel
theorem tx_cod_13 : decode tx_codC 13 = .ok (.iconst 1, 1) := by decide +kernel
theorem tx_cod_14 : decode tx_codC 14 = .ok (.ireturn, 1) := by decide +kernel
theorem tx_lat_0 : decode tx_latC 0 = .ok (.getstatic 38, 3) := by decide +kernel
theorem tx_lat_3 : decode tx_latC 3 = .ok (.ifCond .eq 14, 3) := by decide +kernel
theorem tx_lat_6 : decode tx_latC 6 = .ok (.aload_n 0, 1) := by decide +kernel
theorem tx_lat_7 : decode tx_latC 7 = .ok (.getfield 15, 3) := by decide +kernel
theorem tx_lat_10 : decode tx_latC 10 = .ok (.ifCond .ne 7, 3) := by decide +kernel
theorem tx_lat_13 : decode tx_latC 13 = .ok (.iconst 1, 1) := by decide +kernel
theorem tx_lat_14 : decode tx_latC 14 = .ok (.goto 4, 3) := by decide +kernel
theorem tx_lat_17 : decode tx_latC 17 = .ok (.iconst 0, 1) := by decide +kernel
theorem tx_lat_18 : decode tx_latC 18 = .ok (.ireturn, 1) := by decide +kernel
theorem tx_chk_0 : decode tx_chkC 0 = .ok (.iload_n 0, 1) := by decide +kernel
theorem tx_chk_1 : decode tx_chkC 1 = .ok (.iload_n 1, 1) := by decide +kernel
theorem tx_chk_2 : decode tx_chkC 2 = .ok (.getstatic 1053, 3) := by decide +kernel
theorem tx_chk_5 : decode tx_chkC 5 = .ok (.invokestatic 1059, 3) := by decide +kernel
theorem tx_chk_8 : decode tx_chkC 8 = .ok (.pop, 1) := by decide +kernel
theorem tx_chk_9 : decode tx_chkC 9 = .ok (.return_, 1) := by decide +kernel
theorem tx_lch_0 : decode tx_lchC 0 = .ok (.iload_n 1, 1) := by decide +kernel
theorem tx_lch_1 : decode tx_lchC 1 = .ok (.aload_n 0, 1) := by decide +kernel
theorem tx_lch_2 : decode tx_lchC 2 = .ok (.arraylength, 1) := by decide +kernel
theorem tx_lch_3 : decode tx_lchC 3 = .ok (.invokestatic 9, 3) := by decide +kernel
theorem tx_lch_6 : decode tx_lchC 6 = .ok (.aload_n 0, 1) := by decide +kernel
theorem tx_lch_7 : decode tx_lchC 7 = .ok (.iload_n 1, 1) := by decide +kernel
theorem tx_lch_8 : decode tx_lchC 8 = .ok (.baload, 1) := by decide +kernel
theorem tx_lch_9 : decode tx_lchC 9 = .ok (.sipush 255, 3) := by decide +kernel
theorem tx_lch_12 : decode tx_lchC 12 = .ok (.iand, 1) := by decide +kernel
theorem tx_lch_13 : decode tx_lchC 13 = .ok (.i2c, 1) := by decide +kernel
theorem tx_lch_14 : decode tx_lchC 14 = .ok (.ireturn, 1) := by decide +kernel
theorem tx_pre_0 : decode tx_preC 0 = .ok (.iload_n 0, 1) := by decide +kernel
theorem tx_pre_1 : decode tx_preC 1 = .ok (.ifCond .lt 8, 3) := by decide +kernel
theorem tx_pre_4 : decode tx_preC 4 = .ok (.iload_n 0, 1) := by decide +kernel
theorem tx_pre_5 : decode tx_preC 5 = .ok (.iload_n 1, 1) := by decide +kernel
theorem tx_pre_6 : decode tx_preC 6 = .ok (.if_icmp .lt 10, 3) := by decide +kernel
theorem tx_pre_9 : decode tx_preC 9 = .ok (.aload_n 2, 1) := by decide +kernel
theorem tx_pre_10 : decode tx_preC 10 = .ok (.iload_n 0, 1) := by decide +kernel
theorem tx_pre_11 : decode tx_preC 11 = .ok (.iload_n 1, 1) := by decide +kernel
theorem tx_pre_12 : decode tx_preC 12 = .ok (.invokestatic 95, 3) := by decide +kernel
theorem tx_pre_15 : decode tx_preC 15 = .ok (.athrow, 1) := by decide +kernel
theorem tx_pre_16 : decode tx_preC 16 = .ok (.iload_n 0, 1) := by decide +kernel
theorem tx_pre_17 : decode tx_preC 17 = .ok (.ireturn, 1) := by decide +kernel
set_option maxHeartbeats 4000000 in
set_option maxRecDepth 100000 in
theorem tx_cod_ok (l : Launch) (adK : Nat → Nat) (sz i : Nat) (hi : i < 7) : Met l tx_cod tx_codW ({ frames := 0, cells := 0, slots := 0, locals := 0 }) (tx_Pc adK sz [.ref (adK i)]) (va_Qi (fun (r : Int32) (_ : Unit) => r = 0) (fun _ _ => True) (va_A [] sz)) 0 0 (va_A [] sz) := by
  refine Met.ofW (cc := tx_codC) (maxL := 1) (ret := some .byte) (by decide) rfl ?_
  intro p e s m args below meth c s₁ B hml hv
  obtain ⟨rfl, hsz, ⟨adV, hV⟩, hC, hQ⟩ := hv
  have hx := B.exec
  have hb := B.bytes
  have hr := B.returns
  have hts := atoms_spec (ws := tx_codW) B.pre
  have hown : s.vm.findClass "java/lang/String" = some m.cls := findClass_of_methodNamed B.named
  have hlocks := B.notSynchronized
  subst hsz
  have hS : va_S (va_A [] s.heap.size) s.heap s.heap [] := va_S.rf
  have hl := lv_entry ([.ref (adK i)]) (n := 1) (Nat.le_of_ble_eq_true rfl)
  rw [lg_entry_eq]
  generalize (lg_sl ([.ref (adK i)]) ++ List.replicate (1 - (lg_sl ([.ref (adK i)])).length) Slot.unset).toArray = ls at hl ⊢
  have hl : lv_has ls 1 [(0, .ref (adK i))] := hl
  refine va_gets (v := .int 1) hx hb hC hS hown (hts (.fieldLink "java/lang/String" 38 "java/lang/String" "COMPACT_STRINGS" "Z") (by decide +kernel)) (fun _ q => q) tx_cod_0 ?_
  refine lv_if_eq (tgt := 13) hx hb tx_cod_3 rfl (fun z => absurd z (by decide)) (fun _ => ?_)
  refine lv_aload_n hx hb tx_cod_6 rfl (lv_at hl 0 rfl) ?_
  refine vk_getf hx hb (hV.1 i hi).2.1 hS hown (hts (.fieldLink "java/lang/String" 15 "java/lang/String" "coder" "B") (by decide +kernel)) (fun _ q => q) tx_cod_7 ?_
  refine lv_goto (tgt := 14) hx hb tx_cod_10 rfl ?_
  exact W.zret (v := 0) (ty := .byte) hx hb hr rfl (fun t ht hW => ⟨⟨0, (), rfl, rfl, trivial⟩, hS.F ht⟩) hS.2.2 tx_cod_14
set_option maxHeartbeats 4000000 in
set_option maxRecDepth 100000 in
theorem tx_lat_ok (l : Launch) (adK : Nat → Nat) (sz i : Nat) (hi : i < 7) : Met l tx_lat tx_latW ({ frames := 0, cells := 0, slots := 0, locals := 0 }) (tx_Pc adK sz [.ref (adK i)]) (va_Qi (fun (r : Int32) (_ : Unit) => r = 1) (fun _ _ => True) (va_A [] sz)) 0 0 (va_A [] sz) := by
  refine Met.ofW (cc := tx_latC) (maxL := 1) (ret := some .boolean) (by decide) rfl ?_
  intro p e s m args below meth c s₁ B hml hv
  obtain ⟨rfl, hsz, ⟨adV, hV⟩, hC, hQ⟩ := hv
  have hx := B.exec
  have hb := B.bytes
  have hr := B.returns
  have hts := atoms_spec (ws := tx_latW) B.pre
  have hown : s.vm.findClass "java/lang/String" = some m.cls := findClass_of_methodNamed B.named
  have hlocks := B.notSynchronized
  subst hsz
  have hS : va_S (va_A [] s.heap.size) s.heap s.heap [] := va_S.rf
  have hl := lv_entry ([.ref (adK i)]) (n := 1) (Nat.le_of_ble_eq_true rfl)
  rw [lg_entry_eq]
  generalize (lg_sl ([.ref (adK i)]) ++ List.replicate (1 - (lg_sl ([.ref (adK i)])).length) Slot.unset).toArray = ls at hl ⊢
  have hl : lv_has ls 1 [(0, .ref (adK i))] := hl
  refine va_gets (v := .int 1) hx hb hC hS hown (hts (.fieldLink "java/lang/String" 38 "java/lang/String" "COMPACT_STRINGS" "Z") (by decide +kernel)) (fun _ q => q) tx_lat_0 ?_
  refine lv_if_eq (tgt := 17) hx hb tx_lat_3 rfl (fun z => absurd z (by decide)) (fun _ => ?_)
  refine lv_aload_n hx hb tx_lat_6 rfl (lv_at hl 0 rfl) ?_
  refine vk_getf hx hb (hV.1 i hi).2.1 hS hown (hts (.fieldLink "java/lang/String" 15 "java/lang/String" "coder" "B") (by decide +kernel)) (fun _ q => q) tx_lat_7 ?_
  refine lv_if_ne (tgt := 17) hx hb tx_lat_10 rfl (fun z => absurd rfl z) (fun _ => ?_)
  refine lv_iconst (v := 1) hx hb tx_lat_13 (by decide) ?_
  refine lv_goto (tgt := 18) hx hb tx_lat_14 rfl ?_
  exact W.zret (v := 1) (ty := .boolean) hx hb hr rfl (fun t ht hW => ⟨⟨1, (), rfl, rfl, trivial⟩, hS.F ht⟩) hS.2.2 tx_lat_18
set_option maxHeartbeats 4000000 in
set_option maxRecDepth 100000 in
theorem tx_pre_okN (l : Launch) (sz : Nat) (x y : Int32) (h0 : ¬ x < 0) (h1 : x < y) : Met l tx_pre tx_preW ({ frames := 0, cells := 0, slots := 0, locals := 0 }) (tx_Oc sz [.int x, .int y, .null]) (va_Qi (fun (r : Int32) (_ : Unit) => r = x) (fun _ _ => True) (va_A [] sz)) 0 0 (va_A [] sz) := by
  refine Met.ofW (cc := tx_preC) (maxL := 3) (ret := some .int) (by decide) rfl ?_
  intro p e s m args below meth c s₁ B hml hv
  obtain ⟨rfl, hsz⟩ := hv
  have hx := B.exec
  have hb := B.bytes
  have hr := B.returns
  have hts := atoms_spec (ws := tx_preW) B.pre
  have hown : s.vm.findClass "jdk/internal/util/Preconditions" = some m.cls := findClass_of_methodNamed B.named
  have hlocks := B.notSynchronized
  subst hsz
  have hS : va_S (va_A [] s.heap.size) s.heap s.heap [] := va_S.rf
  have hl := lv_entry ([.int x, .int y, .null]) (n := 3) (Nat.le_of_ble_eq_true rfl)
  rw [lg_entry_eq]
  generalize (lg_sl ([.int x, .int y, .null]) ++ List.replicate (3 - (lg_sl ([.int x, .int y, .null])).length) Slot.unset).toArray = ls at hl ⊢
  have hl : lv_has ls 3 [(0, .int x), (1, .int y), (2, .null)] := hl
  refine lv_iload_n hx hb tx_pre_0 rfl (lv_at hl 0 rfl) ?_
  refine lv_if_lt (tgt := 9) hx hb tx_pre_1 rfl (fun z => absurd z h0) (fun _ => ?_)
  refine lv_iload_n hx hb tx_pre_4 rfl (lv_at hl 0 rfl) ?_
  refine lv_iload_n hx hb tx_pre_5 rfl (lv_at hl 1 rfl) ?_
  refine lv_icmp_lt (tgt := 16) hx hb tx_pre_6 rfl (fun _ => ?_) (fun z => absurd h1 z)
  refine lv_iload_n hx hb tx_pre_16 rfl (lv_at hl 0 rfl) ?_
  exact W.iret hx hb hr (fun t ht hW => ⟨⟨x, (), rfl, rfl, trivial⟩, hS.F ht⟩) hS.2.2 tx_pre_17
set_option maxHeartbeats 4000000 in
set_option maxRecDepth 100000 in
theorem tx_pre_okR (l : Launch) (sz : Nat) (t : Nat) (x y : Int32) (h0 : ¬ x < 0) (h1 : x < y) : Met l tx_pre tx_preW ({ frames := 0, cells := 0, slots := 0, locals := 0 }) (tx_Oc sz [.int x, .int y, .ref t]) (va_Qi (fun (r : Int32) (_ : Unit) => r = x) (fun _ _ => True) (va_A [] sz)) 0 0 (va_A [] sz) := by
  refine Met.ofW (cc := tx_preC) (maxL := 3) (ret := some .int) (by decide) rfl ?_
  intro p e s m args below meth c s₁ B hml hv
  obtain ⟨rfl, hsz⟩ := hv
  have hx := B.exec
  have hb := B.bytes
  have hr := B.returns
  have hts := atoms_spec (ws := tx_preW) B.pre
  have hown : s.vm.findClass "jdk/internal/util/Preconditions" = some m.cls := findClass_of_methodNamed B.named
  have hlocks := B.notSynchronized
  subst hsz
  have hS : va_S (va_A [] s.heap.size) s.heap s.heap [] := va_S.rf
  have hl := lv_entry ([.int x, .int y, .ref t]) (n := 3) (Nat.le_of_ble_eq_true rfl)
  rw [lg_entry_eq]
  generalize (lg_sl ([.int x, .int y, .ref t]) ++ List.replicate (3 - (lg_sl ([.int x, .int y, .ref t])).length) Slot.unset).toArray = ls at hl ⊢
  have hl : lv_has ls 3 [(0, .int x), (1, .int y), (2, .ref t)] := hl
  refine lv_iload_n hx hb tx_pre_0 rfl (lv_at hl 0 rfl) ?_
  refine lv_if_lt (tgt := 9) hx hb tx_pre_1 rfl (fun z => absurd z h0) (fun _ => ?_)
  refine lv_iload_n hx hb tx_pre_4 rfl (lv_at hl 0 rfl) ?_
  refine lv_iload_n hx hb tx_pre_5 rfl (lv_at hl 1 rfl) ?_
  refine lv_icmp_lt (tgt := 16) hx hb tx_pre_6 rfl (fun _ => ?_) (fun z => absurd h1 z)
  refine lv_iload_n hx hb tx_pre_16 rfl (lv_at hl 0 rfl) ?_
  exact W.iret hx hb hr (fun t ht hW => ⟨⟨x, (), rfl, rfl, trivial⟩, hS.F ht⟩) hS.2.2 tx_pre_17
theorem tx_g_len : GoodIn tx_lenW (wsV "java/lang/String" 335 "java/lang/String" tx_cod tx_codW) := goodIn_of _ (by decide +kernel)
theorem tx_g_chk : GoodIn tx_chkW (va_wsS "java/lang/String" 1059 tx_pre tx_preW) := goodIn_of _ (by decide +kernel)
theorem tx_g_lch : GoodIn tx_lchW (va_wsS "java/lang/StringLatin1" 9 tx_chk tx_chkW) := goodIn_of _ (by decide +kernel)
theorem tx_g_chr1 : GoodIn tx_chrW (wsV "java/lang/String" 492 "java/lang/String" tx_lat tx_latW) := goodIn_of _ (by decide +kernel)
theorem tx_g_chr2 : GoodIn tx_chrW (va_wsS "java/lang/String" 495 tx_lch tx_lchW) := goodIn_of _ (by decide +kernel)
set_option maxHeartbeats 4000000 in
set_option maxRecDepth 100000 in
theorem tx_chk_ok (l : Launch) (sz : Nat) (x y : Int32) (h0 : ¬ x < 0) (h1 : x < y) : Met l tx_chk tx_chkW ({ frames := 1, cells := 0, slots := 0, locals := 22 }) (tx_Zc sz [.int x, .int y]) (va_Qv (fun (_ : Unit) => True) (fun _ _ => True) (va_A [] sz)) 0 0 (va_A [] sz) := by
  refine Met.ofW (cc := tx_chkC) (maxL := 2) (ret := none) (by decide) rfl ?_
  intro p e s m args below meth c s₁ B hml hv
  obtain ⟨rfl, hsz, hQ⟩ := hv
  have hx := B.exec
  have hb := B.bytes
  have hr := B.returns
  have hts := atoms_spec (ws := tx_chkW) B.pre
  have hown : s.vm.findClass "java/lang/String" = some m.cls := findClass_of_methodNamed B.named
  have hlocks := B.notSynchronized
  subst hsz
  have hS : va_S (va_A [] s.heap.size) s.heap s.heap [] := va_S.rf
  have hl := lv_entry ([.int x, .int y]) (n := 2) (Nat.le_of_ble_eq_true rfl)
  rw [lg_entry_eq]
  generalize (lg_sl ([.int x, .int y]) ++ List.replicate (2 - (lg_sl ([.int x, .int y])).length) Slot.unset).toArray = ls at hl ⊢
  have hl : lv_has ls 2 [(0, .int x), (1, .int y)] := hl
  have hA : ∀ q, s.heap.size ≤ q → (va_A [] s.heap.size) q := fun q h => Or.inr h
  refine lv_iload_n hx hb tx_chk_0 rfl (lv_at hl 0 rfl) ?_
  refine lv_iload_n hx hb tx_chk_1 rfl (lv_at hl 1 rfl) ?_
  rcases hQ with hZ | ⟨t0, hZ⟩
  · refine va_gets (v := .null) hx hb hZ hS hown (hts (.fieldLink "java/lang/String" 1053 "jdk/internal/util/Preconditions" "SIOOBE_FORMATTER" "Ljava/util/function/BiFunction;") (by decide +kernel)) (fun _ q => q) tx_chk_2 ?_
    refine va_calli (va_runS (As := [.int x, .int y, .null]) (rest := []) ⟨hx, hb, hml, hown, hts⟩ (tx_pre_okN l s.heap.size x y h0 h1) (va_cwS 3 hts tx_g_chk rfl rfl rfl (by decide +kernel) ⟨Nat.le_of_ble_eq_true rfl, Nat.le_of_ble_eq_true rfl⟩) ⟨tx_blindO, fun U hU hW => ⟨rfl, by show U.heap.size = _; rw [hU]⟩⟩ rfl rfl hl.1 rfl (lv_room (Nat.le_of_ble_eq_true rfl)) tx_chk_5 ⟨Nat.zero_le _, Nat.zero_le _⟩) hS (fun q _ h => tx_keep hA q h) (tx_keep hA) (fun r u t1 H1 locs1 ht hvm hr0 _ hz1 hk1 hS => ?_)
    refine lv_pop hx hb tx_chk_8 rfl ?_
    exact W.vret hx hb hr (fun t ht hW => ⟨⟨(), rfl, trivial, trivial⟩, hS.F ht⟩) hS.2.2 tx_chk_9
  · refine va_gets (v := .ref t0) hx hb hZ hS hown (hts (.fieldLink "java/lang/String" 1053 "jdk/internal/util/Preconditions" "SIOOBE_FORMATTER" "Ljava/util/function/BiFunction;") (by decide +kernel)) (fun _ q => q) tx_chk_2 ?_
    refine va_calli (va_runS (As := [.int x, .int y, .ref t0]) (rest := []) ⟨hx, hb, hml, hown, hts⟩ (tx_pre_okR l s.heap.size t0 x y h0 h1) (va_cwS 3 hts tx_g_chk rfl rfl rfl (by decide +kernel) ⟨Nat.le_of_ble_eq_true rfl, Nat.le_of_ble_eq_true rfl⟩) ⟨tx_blindO, fun U hU hW => ⟨rfl, by show U.heap.size = _; rw [hU]⟩⟩ rfl rfl hl.1 rfl (lv_room (Nat.le_of_ble_eq_true rfl)) tx_chk_5 ⟨Nat.zero_le _, Nat.zero_le _⟩) hS (fun q _ h => tx_keep hA q h) (tx_keep hA) (fun r u t1 H1 locs1 ht hvm hr0 _ hz1 hk1 hS => ?_)
    refine lv_pop hx hb tx_chk_8 rfl ?_
    exact W.vret hx hb hr (fun t ht hW => ⟨⟨(), rfl, trivial, trivial⟩, hS.F ht⟩) hS.2.2 tx_chk_9
set_option maxHeartbeats 4000000 in
set_option maxRecDepth 100000 in
theorem tx_lch_ok (l : Launch) (sz t N : Nat) (f : Nat → Int32) (x v : Int32) (h0 : vp_in x N) (h1 : x < Int32.ofNat N) (hv : ((f x.toNatClampNeg &&& 255).toUInt32 % 65536).toInt32 = v) (hn : narrow .char (.int v) = .int v) : Met l tx_lch tx_lchW ({ frames := 2, cells := 0, slots := 0, locals := 43 }) (tx_Qc t N f sz [.ref t, .int x]) (va_Qi (fun (r : Int32) (_ : Unit) => r = v) (fun _ _ => True) (va_A [] sz)) 0 0 (va_A [] sz) := by
  refine Met.ofW (cc := tx_lchC) (maxL := 2) (ret := some .char) (by decide) rfl ?_
  intro p e s m args below meth c s₁ B hml hv
  obtain ⟨rfl, hsz, hT, hQ⟩ := hv
  have hx := B.exec
  have hb := B.bytes
  have hr := B.returns
  have hts := atoms_spec (ws := tx_lchW) B.pre
  have hown : s.vm.findClass "java/lang/StringLatin1" = some m.cls := findClass_of_methodNamed B.named
  have hlocks := B.notSynchronized
  subst hsz
  have hS : va_S (va_A [] s.heap.size) s.heap s.heap [] := va_S.rf
  have hl := lv_entry ([.ref t, .int x]) (n := 2) (Nat.le_of_ble_eq_true rfl)
  rw [lg_entry_eq]
  generalize (lg_sl ([.ref t, .int x]) ++ List.replicate (2 - (lg_sl ([.ref t, .int x])).length) Slot.unset).toArray = ls at hl ⊢
  have hl : lv_has ls 2 [(0, .ref t), (1, .int x)] := hl
  have hA : ∀ q, s.heap.size ≤ q → (va_A [] s.heap.size) q := fun q h => Or.inr h
  refine lv_iload_n hx hb tx_lch_0 rfl (lv_at hl 1 rfl) ?_
  refine lv_aload_n hx hb tx_lch_1 rfl (lv_at hl 0 rfl) ?_
  refine va_tlen hx hb hT hS rfl tx_lch_2 ?_
  refine va_callv (va_runS (As := [.int x, .int (Int32.ofNat N)]) (rest := []) ⟨hx, hb, hml, hown, hts⟩ (tx_chk_ok l s.heap.size x (Int32.ofNat N) (fun q => h0 (Or.inl q)) h1) (va_cwS 2 hts tx_g_lch rfl rfl rfl (by decide +kernel) ⟨Nat.le_of_ble_eq_true rfl, Nat.le_of_ble_eq_true rfl⟩) ⟨tx_blindZ, fun U hU hW => ⟨rfl, by rw [hU], by rw [hU]; exact hQ.moved hW.alike⟩⟩ rfl rfl hl.1 rfl (lv_room (Nat.le_of_ble_eq_true rfl)) tx_lch_3 ⟨Nat.zero_le _, Nat.zero_le _⟩) hS (fun q _ h => tx_keep hA q h) (tx_keep hA) (fun u t1 H1 locs1 ht hvm hr0 _ hz1 hk1 hS => ?_)
  refine lv_aload_n hx hb tx_lch_6 rfl (lv_at hl 0 rfl) ?_
  refine lv_iload_n hx hb tx_lch_7 rfl (lv_at hl 1 rfl) ?_
  refine va_tb (v := .int (f x.toNatClampNeg)) hx hb hT hS h0 rfl tx_lch_8 ?_
  refine lv_sipush (v := 255) hx hb tx_lch_9 (by decide) ?_
  refine lv_iand hx hb tx_lch_12 ?_
  refine lv_i2c (v := v) hx hb tx_lch_13 hv ?_
  exact W.zret (v := v) (ty := .char) hx hb hr hn (fun t ht hW => ⟨⟨v, (), rfl, rfl, trivial⟩, hS.F ht⟩) hS.2.2 tx_lch_14
theorem tx_shr : ∀ i, i < 7 → Int32.ofNat (tx_N.getD i 0) >>> ((0 : Int32) &&& 31) = Int32.ofNat (tx_N.getD i 0) := by decide +kernel
theorem tx_nar : ∀ i, i < 7 → ∀ k, k < tx_N.getD i 0 → narrow .char (.int (tx_V i k)) = .int (tx_V i k) := by decide +kernel
set_option maxHeartbeats 4000000 in
set_option maxRecDepth 100000 in
theorem tx_len_ok (l : Launch) (adK : Nat → Nat) (sz i : Nat) (hi : i < 7) : Met l tx_len tx_lenW ({ frames := 1, cells := 0, slots := 0, locals := 20 }) (tx_Pc adK sz [.ref (adK i)]) (va_Qi (fun (r : Int32) (_ : Unit) => r = Int32.ofNat (tx_N.getD i 0)) (fun _ _ => True) (va_A [] sz)) 0 0 (va_A [] sz) := by
  refine Met.ofW (cc := tx_lenC) (maxL := 1) (ret := some .int) (by decide) rfl ?_
  intro p e s m args below meth c s₁ B hml hv
  obtain ⟨rfl, hsz, hT⟩ := hv
  have hx := B.exec
  have hb := B.bytes
  have hr := B.returns
  have hts := atoms_spec (ws := tx_lenW) B.pre
  have hown : s.vm.findClass "java/lang/String" = some m.cls := findClass_of_methodNamed B.named
  have hlocks := B.notSynchronized
  subst hsz
  have hS : va_S (va_A [] s.heap.size) s.heap s.heap [] := va_S.rf
  have hl := lv_entry ([.ref (adK i)]) (n := 1) (Nat.le_of_ble_eq_true rfl)
  rw [lg_entry_eq]
  generalize (lg_sl ([.ref (adK i)]) ++ List.replicate (1 - (lg_sl ([.ref (adK i)])).length) Slot.unset).toArray = ls at hl ⊢
  have hl : lv_has ls 1 [(0, .ref (adK i))] := hl
  have hT0 := hT
  obtain ⟨⟨adV, hV⟩, hC, hQ⟩ := hT
  have hA : ∀ q, s.heap.size ≤ q → (va_A [] s.heap.size) q := fun q h => Or.inr h
  refine lv_aload_n hx hb tx_len_0 rfl (lv_at hl 0 rfl) ?_
  refine vk_getf hx hb (hV.1 i hi).2.2.1 hS hown (hts (.fieldLink "java/lang/String" 9 "java/lang/String" "value" "[B") (by decide +kernel)) (fun _ q => q) tx_len_1 ?_
  refine va_tlen hx hb (hV.1 i hi).2.2.2 hS rfl tx_len_4 ?_
  refine lv_aload_n hx hb tx_len_5 rfl (lv_at hl 0 rfl) ?_
  refine va_calli (va_runV (As := []) (rest := [.int (Int32.ofNat (tx_N.getD i 0))]) ⟨hx, hb, hml, hown, hts⟩ (tx_cod_ok l adK s.heap.size i hi) (cwV 0 hts tx_g_len rfl rfl rfl (by decide +kernel) ⟨Nat.le_of_ble_eq_true rfl, Nat.le_of_ble_eq_true rfl⟩) ⟨tx_blind, vk_recv hV hi hS, fun U hU hW => ⟨rfl, by rw [hU], by rw [hU]; exact tx_S.go hT0 (fun _ _ _ => rfl) hW.alike (fun _ h => h)⟩⟩ rfl rfl hl.1 rfl (lv_room (Nat.le_of_ble_eq_true rfl)) tx_len_6 ⟨Nat.zero_le _, Nat.zero_le _⟩) hS (fun q _ h => tx_keep hA q h) (tx_keep hA) (fun r u t1 H1 locs1 ht hvm hr0 _ hz1 hk1 hS => ?_)
  subst hr0
  refine lv_ishr hx hb tx_len_9 ?_
  rw [tx_shr i hi]
  exact W.iret hx hb hr (fun t ht hW => ⟨⟨_, (), rfl, rfl, trivial⟩, hS.F ht⟩) hS.2.2 tx_len_10
set_option maxHeartbeats 4000000 in
set_option maxRecDepth 100000 in
theorem tx_chr_ok (l : Launch) (adK : Nat → Nat) (sz i : Nat) (x : Int32) (hi : i < 7) (h0 : vp_in x (tx_N.getD i 0)) (h1 : x < Int32.ofNat (tx_N.getD i 0)) : Met l tx_chr tx_chrW ({ frames := 3, cells := 0, slots := 0, locals := 64 }) (tx_Pc adK sz [.ref (adK i), .int x]) (va_Qi (fun (r : Int32) (_ : Unit) => r = tx_V i x.toNatClampNeg) (fun _ _ => True) (va_A [] sz)) 0 0 (va_A [] sz) := by
  refine Met.ofW (cc := tx_chrC) (maxL := 2) (ret := some .char) (by decide) rfl ?_
  intro p e s m args below meth c s₁ B hml hv
  obtain ⟨rfl, hsz, hT⟩ := hv
  have hx := B.exec
  have hb := B.bytes
  have hr := B.returns
  have hts := atoms_spec (ws := tx_chrW) B.pre
  have hown : s.vm.findClass "java/lang/String" = some m.cls := findClass_of_methodNamed B.named
  have hlocks := B.notSynchronized
  subst hsz
  have hS : va_S (va_A [] s.heap.size) s.heap s.heap [] := va_S.rf
  have hl := lv_entry ([.ref (adK i), .int x]) (n := 2) (Nat.le_of_ble_eq_true rfl)
  rw [lg_entry_eq]
  generalize (lg_sl ([.ref (adK i), .int x]) ++ List.replicate (2 - (lg_sl ([.ref (adK i), .int x])).length) Slot.unset).toArray = ls at hl ⊢
  have hl : lv_has ls 2 [(0, .ref (adK i)), (1, .int x)] := hl
  have hT0 := hT
  obtain ⟨⟨adV, hV⟩, hC, hQ⟩ := hT
  have hA : ∀ q, s.heap.size ≤ q → (va_A [] s.heap.size) q := fun q h => Or.inr h
  refine lv_aload_n hx hb tx_chr_0 rfl (lv_at hl 0 rfl) ?_
  refine va_calli (va_runV (As := []) (rest := []) ⟨hx, hb, hml, hown, hts⟩ (tx_lat_ok l adK s.heap.size i hi) (cwV 0 hts tx_g_chr1 rfl rfl rfl (by decide +kernel) ⟨Nat.le_of_ble_eq_true rfl, Nat.le_of_ble_eq_true rfl⟩) ⟨tx_blind, vk_recv hV hi hS, fun U hU hW => ⟨rfl, by rw [hU], by rw [hU]; exact tx_S.go hT0 (fun _ _ _ => rfl) hW.alike (fun _ h => h)⟩⟩ rfl rfl hl.1 rfl (lv_room (Nat.le_of_ble_eq_true rfl)) tx_chr_1 ⟨Nat.zero_le _, Nat.zero_le _⟩) hS (fun q _ h => tx_keep hA q h) (tx_keep hA) (fun r u t1 H1 locs1 ht hvm hr0 _ hz1 hk1 hS => ?_)
  subst hr0
  refine lv_if_eq (tgt := 16) hx hb tx_chr_4 rfl (fun z => absurd z (by decide)) (fun _ => ?_)
  refine lv_aload_n hx hb tx_chr_7 rfl (lv_at hl 0 rfl) ?_
  refine vk_getf hx hb (hV.1 i hi).2.2.1 hS hown (hts (.fieldLink "java/lang/String" 9 "java/lang/String" "value" "[B") (by decide +kernel)) (fun _ q => q) tx_chr_8 ?_
  refine lv_iload_n hx hb tx_chr_11 rfl (lv_at hl 1 rfl) ?_
  have hlt : x.toNatClampNeg < tx_N.getD i 0 := Nat.not_le.mp fun q => h0 (Or.inr q)
  have hkn : ∀ q, va_A [] H1.size q → va_A [] s.heap.size q := tx_keep (fun q h => hA q (Nat.le_trans hS.1 h))
  refine va_calli (va_runS (As := [.ref (adV i), .int x]) (rest := []) ⟨hx, hb, hml, hown, hts⟩ (tx_lch_ok l H1.size (adV i) (tx_N.getD i 0) (fun j => (tx_B.getD i []).getD j 0) x (tx_V i x.toNatClampNeg) h0 h1 rfl (tx_nar i hi _ hlt)) (va_cwS 2 hts tx_g_chr2 rfl rfl rfl (by decide +kernel) ⟨Nat.le_of_ble_eq_true rfl, Nat.le_of_ble_eq_true rfl⟩) ⟨tx_blindQ, fun U hU hW => ⟨rfl, by rw [hU], by rw [hU]; exact (((hV.1 i hi).2.2.2.kept hS.2.1).moved hW.alike).narrow hkn, by rw [hU]; exact ((hQ.kept hS.2.1).moved hW.alike).narrow hkn⟩⟩ rfl rfl hl.1 rfl (lv_room (Nat.le_of_ble_eq_true rfl)) tx_chr_12 ⟨Nat.zero_le _, Nat.zero_le _⟩) hS (fun q _ h => hkn q h) hkn (fun r2 u2 t2 H2 locs2 ht2 hvm2 hr2 _ hz2 hk2 hS => ?_)
  subst hr2
  exact W.zret (ty := .char) hx hb hr (tx_nar i hi _ hlt) (fun t ht hW => ⟨⟨_, (), rfl, rfl, trivial⟩, hS.F ht⟩) hS.2.2 tx_chr_15
section TXW
variable {p : Program} {l : Launch} {e : Env} {R : Room} {s : State} {m : MethodId} {args : Array Value} {below : List Frame} {meth : Method} {c : Code} {H : Heap} {locs : List Loc} {cells slots : Nat} {Q : State → Prop}
variable {cc : ByteArray} {pc : Nat} {ls : Array Slot} {D : va_G} {cl : List vw_C} {A : Nat → Prop} {own : String} {rest : List Value} {Ts : List Jvm.Cond} {adK : Nat → Nat} {ws : va_W}
set_option maxHeartbeats 4000000 in
set_option maxRecDepth 100000 in
theorem tx_len_W (hx : p.tables.exec = Jvm.exec) (hb : c.code = cc) (hml : c.maxLocals = ls.size) (hown : s.vm.findClass own = some m.cls) (hts : ∀ w ∈ Ts, w.before args s = true) (hT : tx_S adK A s s.heap) (hS : va_S A s.heap H locs) (hA : ∀ q, s.heap.size ≤ q → A q) (hR : 4 ≤ R.frames ∧ 100 ≤ R.locals) (hce : cells ≤ R.cells) (hsl : slots ≤ R.slots) {i idx : Nat} (hdg : decode cc pc = .ok (.invokevirtual idx, 3)) (hG : GoodIn Ts (wsV own idx "java/lang/String" tx_len tx_lenW)) (hi : i < 7) (hsm : (rest.map fun v => v.category).sum ≤ 8) (hP : va_P D cl ws H)
    (kk : ∀ (H1 : Heap) (locs1 : List Loc), va_P D cl ws H1 → va_S A s.heap H1 locs1 → W p l e R s m args below meth c H1 locs1 cells slots Q (F0 m (pc + 3) ls (.int (Int32.ofNat (tx_N.getD i 0)) :: rest))) : W p l e R s m args below meth c H locs cells slots Q (F0 m pc ls (.ref (adK i) :: rest)) := by
  have hkn : ∀ q, va_A [] H.size q → A q := tx_keep (fun q h => hA q (Nat.le_trans hS.1 h))
  have hT0 := hT
  obtain ⟨⟨adV, hV⟩, hC, hQ⟩ := hT
  refine va_calli (va_runV (As := []) (rest := rest) (b := adK i) (nL := ls.size) ⟨hx, hb, hml, hown, hts⟩ (tx_len_ok l adK H.size i hi) (cwV 0 hts hG rfl rfl rfl (by decide +kernel) ⟨by show 1 + 1 ≤ _; omega, by show 8 + (1 + 11) + 20 ≤ _; omega⟩) ⟨tx_blind, vk_recv hV hi hS, fun U hU hW => ⟨rfl, by rw [hU], by rw [hU]; exact tx_S.go hT0 hS.2.1 hW.alike hkn⟩⟩ rfl rfl rfl rfl (lv_room hsm) hdg ⟨hce, hsl⟩) hS (fun q _ h => hkn q h) hkn (fun r u t1 H1 locs1 ht hvm hr0 _ hz1 hk1 hS => ?_)
  subst hr0
  exact kk H1 locs1 (fun k q h => (hP k q h).kept (hk1 q.1 (hP k q h).lt (tx_not (hP k q h).lt))) hS
set_option maxHeartbeats 4000000 in
set_option maxRecDepth 100000 in
theorem tx_chr_W (hx : p.tables.exec = Jvm.exec) (hb : c.code = cc) (hml : c.maxLocals = ls.size) (hown : s.vm.findClass own = some m.cls) (hts : ∀ w ∈ Ts, w.before args s = true) (hT : tx_S adK A s s.heap) (hS : va_S A s.heap H locs) (hA : ∀ q, s.heap.size ≤ q → A q) (hR : 4 ≤ R.frames ∧ 100 ≤ R.locals) (hce : cells ≤ R.cells) (hsl : slots ≤ R.slots) {i idx : Nat} {x : Int32} (hdg : decode cc pc = .ok (.invokevirtual idx, 3)) (hG : GoodIn Ts (wsV own idx "java/lang/String" tx_chr tx_chrW)) (hi : i < 7) (h0 : vp_in x (tx_N.getD i 0)) (h1 : x < Int32.ofNat (tx_N.getD i 0)) (hsm : (rest.map fun v => v.category).sum ≤ 8) (hP : va_P D cl ws H)
    (kk : ∀ (H1 : Heap) (locs1 : List Loc), va_P D cl ws H1 → va_S A s.heap H1 locs1 → W p l e R s m args below meth c H1 locs1 cells slots Q (F0 m (pc + 3) ls (.int (tx_V i x.toNatClampNeg) :: rest))) : W p l e R s m args below meth c H locs cells slots Q (F0 m pc ls (.int x :: .ref (adK i) :: rest)) := by
  have hkn : ∀ q, va_A [] H.size q → A q := tx_keep (fun q h => hA q (Nat.le_trans hS.1 h))
  have hT0 := hT
  obtain ⟨⟨adV, hV⟩, hC, hQ⟩ := hT
  refine va_calli (va_runV (As := [.int x]) (rest := rest) (b := adK i) (nL := ls.size) ⟨hx, hb, hml, hown, hts⟩ (tx_chr_ok l adK H.size i x hi h0 h1) (cwV 1 hts hG rfl rfl rfl (by decide +kernel) ⟨by show 3 + 1 ≤ _; omega, by show 8 + (2 + 11) + 64 ≤ _; omega⟩) ⟨tx_blind, vk_recv hV hi hS, fun U hU hW => ⟨rfl, by rw [hU], by rw [hU]; exact tx_S.go hT0 hS.2.1 hW.alike hkn⟩⟩ rfl rfl rfl rfl (lv_room hsm) hdg ⟨hce, hsl⟩) hS (fun q _ h => hkn q h) hkn (fun r u t1 H1 locs1 ht hvm hr0 _ hz1 hk1 hS => ?_)
  subst hr0
  exact kk H1 locs1 (fun k q h => (hP k q h).kept (hk1 q.1 (hP k q h).lt (tx_not (hP k q h).lt))) hS
end TXW
