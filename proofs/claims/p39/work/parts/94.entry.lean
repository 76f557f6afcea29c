/-! from the law's entry: a run of the machine of worlds is the claim -/
theorem ab_Mt_more {l : Launch} {D : va_G} {cl : List vw_C} {K : ab_Q} {Cn : String} {Nl : ab_N} {Tb : List (List Int32)} {Sl : List (String × String)} {Ws : List Jvm.Cond} {md : ab_D} {d : Nat} {As : List Value} {cs : List ab_C} {v : Option Value} {cs2 : List ab_C} (h : ab_Mt l D cl K (Cn, Nl, Tb, Sl) Ws md d As cs v cs2) (T2 : List (List Int32)) : ab_Mt l D cl K (Cn, Nl, Tb ++ T2, Sl) Ws md d As cs v cs2 := by
  intro ad sz p e ha hc hk s m args below hf happ hP hT
  refine h ad sz p e ha hc hk s m args below hf happ ⟨hP.1, hP.2.1, hP.2.2.1, hP.2.2.2.1, hP.2.2.2.2.1, fun j t q => hP.2.2.2.2.2.1 j t ?_, hP.2.2.2.2.2.2⟩ hT
  show (Tb ++ T2)[j]? = some t
  rw [List.getElem?_append_left (List.getElem?_eq_some_iff.mp q).1]
  exact q
theorem ab_arr {s : State} {args : Array Value} {ty : FieldType} (h : (Jvm.Cond.arrayClass ty).before args s = true) : ∃ (cA : ClassId) (kA : Class) (comp : ClassId), s.vm.findClass ("[" ++ ty.toString) = some cA ∧ s.vm.classes[cA]? = some kA ∧ kA.kind = .array comp ty := Cond.arrayClass_spec h
/-- the classes, at the law's entry -/
theorem ab_world0 {s : State} {args : Array Value} (hts : ∀ w ∈ lw_tbl, w.before args s = true) (hc : ∀ (ci : Nat) (q : vw_C), vwCl[ci]? = some q → ∃ n, (Jvm.Cond.instantiable q.1 n).before args s = true) (hi : (Jvm.Cond.arrayClass .int).before args s = true) (hl : (Jvm.Cond.arrayClass .long).before args s = true) (ho : (Jvm.Cond.arrayOver (.object RX3)).before args s = true) :
    ∃ (D : va_G) (K : ab_Q), ab_WK D vwCl K (RX3, ab_Nl, ab_Tb, ab_Sl) s := by
  have hk : ∀ (ci : Nat), ∃ r : ClassId × (Nat → Nat), ∀ q : vw_C, vwCl[ci]? = some q → u_Kn s q.1 q.2.1 q.2.2 r.1 r.2 := by
    intro ci
    cases hq : vwCl[ci]? with
    | none => exact ⟨(0, fun _ => 0), fun q h => by cases h⟩
    | some q =>
      obtain ⟨C, T, N⟩ := q
      have hin : ∀ w ∈ u_ws C T N, w ∈ lw_tbl := by
        have hG : ∃ ty, ab_G ci = some (C, T, N, ty) := by
          match ci, hq with
          | 0, hq => cases hq; exact ⟨_, rfl⟩
          | 1, hq => cases hq; exact ⟨_, rfl⟩
          | 2, hq => cases hq; exact ⟨_, rfl⟩
          | 3, hq => cases hq; exact ⟨_, rfl⟩
          | 4, hq => cases hq; exact ⟨_, rfl⟩
          | 5, hq => cases hq; exact ⟨_, rfl⟩
          | 6, hq => cases hq; exact ⟨_, rfl⟩
          | ci + 7, hq => simp at hq
        obtain ⟨ty, hG⟩ := hG
        exact fun w hw => (ab_Ws_tbl w ((ab_cgW _ _ _ _ _ hG).2.1 w hw)).1
      obtain ⟨n, hn⟩ := hc ci _ hq
      obtain ⟨cC, iS, h⟩ := u_known (C := C) (T := T) (N := N) (n := n) hts hin hn
      exact ⟨(cC, iS), fun q h2 => by cases h2; exact h⟩
  obtain ⟨f, hf⟩ := Classical.axiomOfChoice hk
  obtain ⟨c1, k1, p1, a1, a2, a3⟩ := ab_arr hi
  obtain ⟨c2, k2, p2, b1, b2, b3⟩ := ab_arr hl
  obtain ⟨comp, c3, k3, d1, d2, d3, d4, d5⟩ := Cond.arrayOver_spec ho
  refine ⟨(fun ci => (f ci).1, fun ci => (f ci).2), (c1, c2, c3), ⟨fun ci q h => hf ci q h, fun k q h => ?_⟩, va_AO.of ho, fun q hq => va_Nw.of rfl (hts _ (ab_Nl_in q hq))⟩
  match k, h with
  | 0, h => cases h; exact ⟨fun n z => ⟨(fun k h => by cases h), k1, a2, p1, a3⟩, a1⟩
  | 1, h => cases h; exact ⟨fun n z => ⟨(fun k h => by cases h), k2, b2, p2, b3⟩, b1⟩
  | 2, h => cases h; exact ⟨fun n z => ⟨(fun k h => by cases h), k3, d3, comp, d4⟩, k3, comp, d3, d4, d1, d5⟩
  | k + 3, h => simp [ab_ty] at h

set_option maxRecDepth 20000 in
theorem ab_stat_ABOVE {s : State} {args : Array Value} (hts : ∀ w ∈ lw_tbl, w.before args s = true) (hgv : (Jvm.Cond.and given_1 narrow_1).before args s = true) {A : Nat → Prop} (hA : ∀ a : Nat, a < s.heap.size → ¬ A a) : ∃ t : Nat, va_T .int t 7 (fun i => .int (([-1, 0, 0, 1, 0, 2, 4] : List Int32).getD i 0)) A s s.heap ∧ va_Z "FountainGivesChange$Square" "ABOVE" "[I" (.ref t) A s s.heap := by
  have hs := flat_of_before _ hgv
  have hel : ∀ j : Nat, j < 7 → (Term.elem (.static "FountainGivesChange$Square" "ABOVE" "[I") (.int (Int32.ofNat j))).eval args s none [] s = some ((fun i => Value.int (([-1, 0, 0, 1, 0, 2, 4] : List Int32).getD i 0)) j) := by
    intro j hj
    match j, hj with
    | 0, _ => exact va_eqt (hs (.eq (.elem (.static "FountainGivesChange$Square" "ABOVE" "[I") (.int 0)) (.int (-1))) (by decide +kernel))
    | 1, _ => exact va_eqt (hs (.eq (.elem (.static "FountainGivesChange$Square" "ABOVE" "[I") (.int 1)) (.int (0))) (by decide +kernel))
    | 2, _ => exact va_eqt (hs (.eq (.elem (.static "FountainGivesChange$Square" "ABOVE" "[I") (.int 2)) (.int (0))) (by decide +kernel))
    | 3, _ => exact va_eqt (hs (.eq (.elem (.static "FountainGivesChange$Square" "ABOVE" "[I") (.int 3)) (.int (1))) (by decide +kernel))
    | 4, _ => exact va_eqt (hs (.eq (.elem (.static "FountainGivesChange$Square" "ABOVE" "[I") (.int 4)) (.int (0))) (by decide +kernel))
    | 5, _ => exact va_eqt (hs (.eq (.elem (.static "FountainGivesChange$Square" "ABOVE" "[I") (.int 5)) (.int (2))) (by decide +kernel))
    | 6, _ => exact va_eqt (hs (.eq (.elem (.static "FountainGivesChange$Square" "ABOVE" "[I") (.int 6)) (.int (4))) (by decide +kernel))
    | j + 7, h => omega
  obtain ⟨t, ht, hT⟩ := va_Tof (tm := (.static "FountainGivesChange$Square" "ABOVE" "[I")) (ty := .int) (N := 7) (f := fun i => .int (([-1, 0, 0, 1, 0, 2, 4] : List Int32).getD i 0)) (A := A) (by decide) (hs (.arrayOf (.static "FountainGivesChange$Square" "ABOVE" "[I") .int) (by decide +kernel)) (va_eqt (hs (.eq (.length (.static "FountainGivesChange$Square" "ABOVE" "[I")) (.int 7)) (by decide +kernel))) hel hA
  exact ⟨t, hT, va_Zref (hts _ (ab_wn_in (i := 2081) (by decide +kernel))) (hts _ (ab_wn_in (i := 1002) (by decide +kernel))) ht hA⟩
set_option maxRecDepth 20000 in
theorem ab_stat_BODIES {s : State} {args : Array Value} (hts : ∀ w ∈ lw_tbl, w.before args s = true) (hgv : (Jvm.Cond.and given_1 narrow_1).before args s = true) {A : Nat → Prop} (hA : ∀ a : Nat, a < s.heap.size → ¬ A a) : ∃ t : Nat, va_T .int t 21 (fun i => .int (([10, 20, 0, 40, 51, 0, 70, 11, 0, 30, 0, 0, 0, 71, 12, 0, 0, 0, 50, 60, 0] : List Int32).getD i 0)) A s s.heap ∧ va_Z "FountainGivesChange$Moves" "BODIES" "[I" (.ref t) A s s.heap := by
  have hs := flat_of_before _ hgv
  have hel : ∀ j : Nat, j < 21 → (Term.elem (.static "FountainGivesChange$Moves" "BODIES" "[I") (.int (Int32.ofNat j))).eval args s none [] s = some ((fun i => Value.int (([10, 20, 0, 40, 51, 0, 70, 11, 0, 30, 0, 0, 0, 71, 12, 0, 0, 0, 50, 60, 0] : List Int32).getD i 0)) j) := by
    intro j hj
    match j, hj with
    | 0, _ => exact va_eqt (hs (.eq (.elem (.static "FountainGivesChange$Moves" "BODIES" "[I") (.int 0)) (.int (10))) (by decide +kernel))
    | 1, _ => exact va_eqt (hs (.eq (.elem (.static "FountainGivesChange$Moves" "BODIES" "[I") (.int 1)) (.int (20))) (by decide +kernel))
    | 2, _ => exact va_eqt (hs (.eq (.elem (.static "FountainGivesChange$Moves" "BODIES" "[I") (.int 2)) (.int (0))) (by decide +kernel))
    | 3, _ => exact va_eqt (hs (.eq (.elem (.static "FountainGivesChange$Moves" "BODIES" "[I") (.int 3)) (.int (40))) (by decide +kernel))
    | 4, _ => exact va_eqt (hs (.eq (.elem (.static "FountainGivesChange$Moves" "BODIES" "[I") (.int 4)) (.int (51))) (by decide +kernel))
    | 5, _ => exact va_eqt (hs (.eq (.elem (.static "FountainGivesChange$Moves" "BODIES" "[I") (.int 5)) (.int (0))) (by decide +kernel))
    | 6, _ => exact va_eqt (hs (.eq (.elem (.static "FountainGivesChange$Moves" "BODIES" "[I") (.int 6)) (.int (70))) (by decide +kernel))
    | 7, _ => exact va_eqt (hs (.eq (.elem (.static "FountainGivesChange$Moves" "BODIES" "[I") (.int 7)) (.int (11))) (by decide +kernel))
    | 8, _ => exact va_eqt (hs (.eq (.elem (.static "FountainGivesChange$Moves" "BODIES" "[I") (.int 8)) (.int (0))) (by decide +kernel))
    | 9, _ => exact va_eqt (hs (.eq (.elem (.static "FountainGivesChange$Moves" "BODIES" "[I") (.int 9)) (.int (30))) (by decide +kernel))
    | 10, _ => exact va_eqt (hs (.eq (.elem (.static "FountainGivesChange$Moves" "BODIES" "[I") (.int 10)) (.int (0))) (by decide +kernel))
    | 11, _ => exact va_eqt (hs (.eq (.elem (.static "FountainGivesChange$Moves" "BODIES" "[I") (.int 11)) (.int (0))) (by decide +kernel))
    | 12, _ => exact va_eqt (hs (.eq (.elem (.static "FountainGivesChange$Moves" "BODIES" "[I") (.int 12)) (.int (0))) (by decide +kernel))
    | 13, _ => exact va_eqt (hs (.eq (.elem (.static "FountainGivesChange$Moves" "BODIES" "[I") (.int 13)) (.int (71))) (by decide +kernel))
    | 14, _ => exact va_eqt (hs (.eq (.elem (.static "FountainGivesChange$Moves" "BODIES" "[I") (.int 14)) (.int (12))) (by decide +kernel))
    | 15, _ => exact va_eqt (hs (.eq (.elem (.static "FountainGivesChange$Moves" "BODIES" "[I") (.int 15)) (.int (0))) (by decide +kernel))
    | 16, _ => exact va_eqt (hs (.eq (.elem (.static "FountainGivesChange$Moves" "BODIES" "[I") (.int 16)) (.int (0))) (by decide +kernel))
    | 17, _ => exact va_eqt (hs (.eq (.elem (.static "FountainGivesChange$Moves" "BODIES" "[I") (.int 17)) (.int (0))) (by decide +kernel))
    | 18, _ => exact va_eqt (hs (.eq (.elem (.static "FountainGivesChange$Moves" "BODIES" "[I") (.int 18)) (.int (50))) (by decide +kernel))
    | 19, _ => exact va_eqt (hs (.eq (.elem (.static "FountainGivesChange$Moves" "BODIES" "[I") (.int 19)) (.int (60))) (by decide +kernel))
    | 20, _ => exact va_eqt (hs (.eq (.elem (.static "FountainGivesChange$Moves" "BODIES" "[I") (.int 20)) (.int (0))) (by decide +kernel))
    | j + 21, h => omega
  obtain ⟨t, ht, hT⟩ := va_Tof (tm := (.static "FountainGivesChange$Moves" "BODIES" "[I")) (ty := .int) (N := 21) (f := fun i => .int (([10, 20, 0, 40, 51, 0, 70, 11, 0, 30, 0, 0, 0, 71, 12, 0, 0, 0, 50, 60, 0] : List Int32).getD i 0)) (A := A) (by decide) (hs (.arrayOf (.static "FountainGivesChange$Moves" "BODIES" "[I") .int) (by decide +kernel)) (va_eqt (hs (.eq (.length (.static "FountainGivesChange$Moves" "BODIES" "[I")) (.int 21)) (by decide +kernel))) hel hA
  exact ⟨t, hT, va_Zref (hts _ (ab_wn_in (i := 4065) (by decide +kernel))) (hts _ (ab_wn_in (i := 1005) (by decide +kernel))) ht hA⟩
theorem ab_inst {s : State} {args : Array Value} (hts : ∀ w ∈ lw_tbl, w.before args s = true) : ∀ (ci : Nat) (q : vw_C), vwCl[ci]? = some q → ∃ n, (Jvm.Cond.instantiable q.1 n).before args s = true := by
  intro ci q hq
  match ci, hq with
  | 0, hq => cases hq; exact ⟨1, hts _ (ab_wn_in (i := 1103) (by decide +kernel))⟩
  | 1, hq => cases hq; exact ⟨5, hts _ (ab_wn_in (i := 1142) (by decide +kernel))⟩
  | 2, hq => cases hq; exact ⟨6, hts _ (ab_wn_in (i := 1113) (by decide +kernel))⟩
  | 3, hq => cases hq; exact ⟨3, hts _ (ab_wn_in (i := 1164) (by decide +kernel))⟩
  | 4, hq => cases hq; exact ⟨15, hts _ (ab_wn_in (i := 1025) (by decide +kernel))⟩
  | 5, hq => cases hq; exact ⟨10, hts _ (ab_wn_in (i := 1017) (by decide +kernel))⟩
  | 6, hq => cases hq; exact ⟨49, hts _ (ab_wn_in (i := 4092) (by decide +kernel))⟩
  | ci + 7, hq => simp at hq
theorem ab_world {s : State} {args : Array Value} (hts : ∀ w ∈ lw_tbl, w.before args s = true) : ∃ (D : va_G) (K : ab_Q), ab_WK D vwCl K (RX3, ab_Nl, ab_Tb, ab_Sl) s :=
  ab_world0 hts (ab_inst hts) (hts _ (ab_wn_in (i := 1099) (by decide +kernel))) (hts _ (ab_wn_in (i := 1181) (by decide +kernel))) (hts _ (ab_wn_in (i := 1101) (by decide +kernel)))
def tx_tm (i : Nat) : Term := .string "FountainGivesChange$Reader" (([123, 125, 127, 128, 130, 132, 134] : List Nat).getD i 0)
set_option maxRecDepth 20000 in
theorem ab_txt {s : State} {args : Array Value} (hts : ∀ w ∈ lw_tbl, w.before args s = true) (hgv : (Jvm.Cond.and given_1 narrow_1).before args s = true) {A : Nat → Prop} (hA : ∀ a : Nat, a < s.heap.size → ¬ A a) : ∃ adK : Nat → Nat, tx_S adK A s s.heap ∧ ∀ q ∈ tx_R, vk_R q.1 q.2.1 q.2.2.1 (adK q.2.2.2) s := by
  have hs := flat_of_before _ hgv
  have hex : ∀ i : Nat, i < 7 → (Cond.exactly (tx_tm i) "java/lang/String").before args s = true := by
    intro i hi
    match i, hi with
    | 0, _ => exact hs (.exactly (.string "FountainGivesChange$Reader" 123) "java/lang/String") (by decide +kernel)
    | 1, _ => exact hs (.exactly (.string "FountainGivesChange$Reader" 125) "java/lang/String") (by decide +kernel)
    | 2, _ => exact hs (.exactly (.string "FountainGivesChange$Reader" 127) "java/lang/String") (by decide +kernel)
    | 3, _ => exact hs (.exactly (.string "FountainGivesChange$Reader" 128) "java/lang/String") (by decide +kernel)
    | 4, _ => exact hs (.exactly (.string "FountainGivesChange$Reader" 130) "java/lang/String") (by decide +kernel)
    | 5, _ => exact hs (.exactly (.string "FountainGivesChange$Reader" 132) "java/lang/String") (by decide +kernel)
    | 6, _ => exact hs (.exactly (.string "FountainGivesChange$Reader" 134) "java/lang/String") (by decide +kernel)
    | i + 7, h => omega
  have hco : ∀ i : Nat, i < 7 → (Cond.eq (.field (tx_tm i) "java/lang/String" "coder" "B") (.int 0)).before args s = true := by
    intro i hi
    match i, hi with
    | 0, _ => exact hs (.eq (.field (.string "FountainGivesChange$Reader" 123) "java/lang/String" "coder" "B") (.int 0)) (by decide +kernel)
    | 1, _ => exact hs (.eq (.field (.string "FountainGivesChange$Reader" 125) "java/lang/String" "coder" "B") (.int 0)) (by decide +kernel)
    | 2, _ => exact hs (.eq (.field (.string "FountainGivesChange$Reader" 127) "java/lang/String" "coder" "B") (.int 0)) (by decide +kernel)
    | 3, _ => exact hs (.eq (.field (.string "FountainGivesChange$Reader" 128) "java/lang/String" "coder" "B") (.int 0)) (by decide +kernel)
    | 4, _ => exact hs (.eq (.field (.string "FountainGivesChange$Reader" 130) "java/lang/String" "coder" "B") (.int 0)) (by decide +kernel)
    | 5, _ => exact hs (.eq (.field (.string "FountainGivesChange$Reader" 132) "java/lang/String" "coder" "B") (.int 0)) (by decide +kernel)
    | 6, _ => exact hs (.eq (.field (.string "FountainGivesChange$Reader" 134) "java/lang/String" "coder" "B") (.int 0)) (by decide +kernel)
    | i + 7, h => omega
  have har : ∀ i : Nat, i < 7 → (Cond.arrayOf (.field (tx_tm i) "java/lang/String" "value" "[B") .byte).before args s = true := by
    intro i hi
    match i, hi with
    | 0, _ => exact hs (.arrayOf (.field (.string "FountainGivesChange$Reader" 123) "java/lang/String" "value" "[B") .byte) (by decide +kernel)
    | 1, _ => exact hs (.arrayOf (.field (.string "FountainGivesChange$Reader" 125) "java/lang/String" "value" "[B") .byte) (by decide +kernel)
    | 2, _ => exact hs (.arrayOf (.field (.string "FountainGivesChange$Reader" 127) "java/lang/String" "value" "[B") .byte) (by decide +kernel)
    | 3, _ => exact hs (.arrayOf (.field (.string "FountainGivesChange$Reader" 128) "java/lang/String" "value" "[B") .byte) (by decide +kernel)
    | 4, _ => exact hs (.arrayOf (.field (.string "FountainGivesChange$Reader" 130) "java/lang/String" "value" "[B") .byte) (by decide +kernel)
    | 5, _ => exact hs (.arrayOf (.field (.string "FountainGivesChange$Reader" 132) "java/lang/String" "value" "[B") .byte) (by decide +kernel)
    | 6, _ => exact hs (.arrayOf (.field (.string "FountainGivesChange$Reader" 134) "java/lang/String" "value" "[B") .byte) (by decide +kernel)
    | i + 7, h => omega
  have hle : ∀ i : Nat, i < 7 → (Cond.eq (.length (.field (tx_tm i) "java/lang/String" "value" "[B")) (.int (Int32.ofNat (tx_N.getD i 0)))).before args s = true := by
    intro i hi
    match i, hi with
    | 0, _ => exact hs (.eq (.length (.field (.string "FountainGivesChange$Reader" 123) "java/lang/String" "value" "[B")) (.int 5)) (by decide +kernel)
    | 1, _ => exact hs (.eq (.length (.field (.string "FountainGivesChange$Reader" 125) "java/lang/String" "value" "[B")) (.int 6)) (by decide +kernel)
    | 2, _ => exact hs (.eq (.length (.field (.string "FountainGivesChange$Reader" 127) "java/lang/String" "value" "[B")) (.int 4)) (by decide +kernel)
    | 3, _ => exact hs (.eq (.length (.field (.string "FountainGivesChange$Reader" 128) "java/lang/String" "value" "[B")) (.int 3)) (by decide +kernel)
    | 4, _ => exact hs (.eq (.length (.field (.string "FountainGivesChange$Reader" 130) "java/lang/String" "value" "[B")) (.int 4)) (by decide +kernel)
    | 5, _ => exact hs (.eq (.length (.field (.string "FountainGivesChange$Reader" 132) "java/lang/String" "value" "[B")) (.int 6)) (by decide +kernel)
    | 6, _ => exact hs (.eq (.length (.field (.string "FountainGivesChange$Reader" 134) "java/lang/String" "value" "[B")) (.int 4)) (by decide +kernel)
    | i + 7, h => omega
  have hel : ∀ i : Nat, i < 7 → ∀ j : Nat, j < tx_N.getD i 0 → (Cond.eq (.elem (.field (tx_tm i) "java/lang/String" "value" "[B") (.int (Int32.ofNat j))) (.int ((tx_B.getD i []).getD j 0))).before args s = true := by
    intro i hi j hj
    match i, hi with
    | 0, _ =>
      have hj : j < 5 := hj
      match j, hj with
      | 0, _ => exact hs (.eq (.elem (.field (.string "FountainGivesChange$Reader" 123) "java/lang/String" "value" "[B") (.int 0)) (.int 112)) (by decide +kernel)
      | 1, _ => exact hs (.eq (.elem (.field (.string "FountainGivesChange$Reader" 123) "java/lang/String" "value" "[B") (.int 1)) (.int 105)) (by decide +kernel)
      | 2, _ => exact hs (.eq (.elem (.field (.string "FountainGivesChange$Reader" 123) "java/lang/String" "value" "[B") (.int 2)) (.int 101)) (by decide +kernel)
      | 3, _ => exact hs (.eq (.elem (.field (.string "FountainGivesChange$Reader" 123) "java/lang/String" "value" "[B") (.int 3)) (.int 99)) (by decide +kernel)
      | 4, _ => exact hs (.eq (.elem (.field (.string "FountainGivesChange$Reader" 123) "java/lang/String" "value" "[B") (.int 4)) (.int 101)) (by decide +kernel)
      | j + 5, h => omega
    | 1, _ =>
      have hj : j < 6 := hj
      match j, hj with
      | 0, _ => exact hs (.eq (.elem (.field (.string "FountainGivesChange$Reader" 125) "java/lang/String" "value" "[B") (.int 0)) (.int 112)) (by decide +kernel)
      | 1, _ => exact hs (.eq (.elem (.field (.string "FountainGivesChange$Reader" 125) "java/lang/String" "value" "[B") (.int 1)) (.int 101)) (by decide +kernel)
      | 2, _ => exact hs (.eq (.elem (.field (.string "FountainGivesChange$Reader" 125) "java/lang/String" "value" "[B") (.int 2)) (.int 114)) (by decide +kernel)
      | 3, _ => exact hs (.eq (.elem (.field (.string "FountainGivesChange$Reader" 125) "java/lang/String" "value" "[B") (.int 3)) (.int 115)) (by decide +kernel)
      | 4, _ => exact hs (.eq (.elem (.field (.string "FountainGivesChange$Reader" 125) "java/lang/String" "value" "[B") (.int 4)) (.int 111)) (by decide +kernel)
      | 5, _ => exact hs (.eq (.elem (.field (.string "FountainGivesChange$Reader" 125) "java/lang/String" "value" "[B") (.int 5)) (.int 110)) (by decide +kernel)
      | j + 6, h => omega
    | 2, _ =>
      have hj : j < 4 := hj
      match j, hj with
      | 0, _ => exact hs (.eq (.elem (.field (.string "FountainGivesChange$Reader" 127) "java/lang/String" "value" "[B") (.int 0)) (.int 99)) (by decide +kernel)
      | 1, _ => exact hs (.eq (.elem (.field (.string "FountainGivesChange$Reader" 127) "java/lang/String" "value" "[B") (.int 1)) (.int 111)) (by decide +kernel)
      | 2, _ => exact hs (.eq (.elem (.field (.string "FountainGivesChange$Reader" 127) "java/lang/String" "value" "[B") (.int 2)) (.int 115)) (by decide +kernel)
      | 3, _ => exact hs (.eq (.elem (.field (.string "FountainGivesChange$Reader" 127) "java/lang/String" "value" "[B") (.int 3)) (.int 116)) (by decide +kernel)
      | j + 4, h => omega
    | 3, _ =>
      have hj : j < 3 := hj
      match j, hj with
      | 0, _ => exact hs (.eq (.elem (.field (.string "FountainGivesChange$Reader" 128) "java/lang/String" "value" "[B") (.int 0)) (.int 104)) (by decide +kernel)
      | 1, _ => exact hs (.eq (.elem (.field (.string "FountainGivesChange$Reader" 128) "java/lang/String" "value" "[B") (.int 1)) (.int 97)) (by decide +kernel)
      | 2, _ => exact hs (.eq (.elem (.field (.string "FountainGivesChange$Reader" 128) "java/lang/String" "value" "[B") (.int 2)) (.int 115)) (by decide +kernel)
      | j + 3, h => omega
    | 4, _ =>
      have hj : j < 4 := hj
      match j, hj with
      | 0, _ => exact hs (.eq (.elem (.field (.string "FountainGivesChange$Reader" 130) "java/lang/String" "value" "[B") (.int 0)) (.int 98)) (by decide +kernel)
      | 1, _ => exact hs (.eq (.elem (.field (.string "FountainGivesChange$Reader" 130) "java/lang/String" "value" "[B") (.int 1)) (.int 97)) (by decide +kernel)
      | 2, _ => exact hs (.eq (.elem (.field (.string "FountainGivesChange$Reader" 130) "java/lang/String" "value" "[B") (.int 2)) (.int 99)) (by decide +kernel)
      | 3, _ => exact hs (.eq (.elem (.field (.string "FountainGivesChange$Reader" 130) "java/lang/String" "value" "[B") (.int 3)) (.int 107)) (by decide +kernel)
      | j + 4, h => omega
    | 5, _ =>
      have hj : j < 6 := hj
      match j, hj with
      | 0, _ => exact hs (.eq (.elem (.field (.string "FountainGivesChange$Reader" 132) "java/lang/String" "value" "[B") (.int 0)) (.int 103)) (by decide +kernel)
      | 1, _ => exact hs (.eq (.elem (.field (.string "FountainGivesChange$Reader" 132) "java/lang/String" "value" "[B") (.int 1)) (.int 114)) (by decide +kernel)
      | 2, _ => exact hs (.eq (.elem (.field (.string "FountainGivesChange$Reader" 132) "java/lang/String" "value" "[B") (.int 2)) (.int 101)) (by decide +kernel)
      | 3, _ => exact hs (.eq (.elem (.field (.string "FountainGivesChange$Reader" 132) "java/lang/String" "value" "[B") (.int 3)) (.int 101)) (by decide +kernel)
      | 4, _ => exact hs (.eq (.elem (.field (.string "FountainGivesChange$Reader" 132) "java/lang/String" "value" "[B") (.int 4)) (.int 100)) (by decide +kernel)
      | 5, _ => exact hs (.eq (.elem (.field (.string "FountainGivesChange$Reader" 132) "java/lang/String" "value" "[B") (.int 5)) (.int 121)) (by decide +kernel)
      | j + 6, h => omega
    | 6, _ =>
      have hj : j < 4 := hj
      match j, hj with
      | 0, _ => exact hs (.eq (.elem (.field (.string "FountainGivesChange$Reader" 134) "java/lang/String" "value" "[B") (.int 0)) (.int 98)) (by decide +kernel)
      | 1, _ => exact hs (.eq (.elem (.field (.string "FountainGivesChange$Reader" 134) "java/lang/String" "value" "[B") (.int 1)) (.int 101)) (by decide +kernel)
      | 2, _ => exact hs (.eq (.elem (.field (.string "FountainGivesChange$Reader" 134) "java/lang/String" "value" "[B") (.int 2)) (.int 115)) (by decide +kernel)
      | 3, _ => exact hs (.eq (.elem (.field (.string "FountainGivesChange$Reader" 134) "java/lang/String" "value" "[B") (.int 3)) (.int 116)) (by decide +kernel)
      | j + 4, h => omega
    | i + 7, h => omega
  have hne : ∀ i j : Nat, i < 7 → j < 7 → i ≠ j → (Cond.not (Cond.eq (tx_tm i) (tx_tm j))).before args s = true ∨ (Cond.not (Cond.eq (tx_tm j) (tx_tm i))).before args s = true := by
    have n01 := hs (.not (.eq (.string "FountainGivesChange$Reader" 123) (.string "FountainGivesChange$Reader" 125))) (by decide +kernel)
    have n02 := hs (.not (.eq (.string "FountainGivesChange$Reader" 123) (.string "FountainGivesChange$Reader" 127))) (by decide +kernel)
    have n03 := hs (.not (.eq (.string "FountainGivesChange$Reader" 123) (.string "FountainGivesChange$Reader" 128))) (by decide +kernel)
    have n04 := hs (.not (.eq (.string "FountainGivesChange$Reader" 123) (.string "FountainGivesChange$Reader" 130))) (by decide +kernel)
    have n05 := hs (.not (.eq (.string "FountainGivesChange$Reader" 123) (.string "FountainGivesChange$Reader" 132))) (by decide +kernel)
    have n06 := hs (.not (.eq (.string "FountainGivesChange$Reader" 123) (.string "FountainGivesChange$Reader" 134))) (by decide +kernel)
    have n12 := hs (.not (.eq (.string "FountainGivesChange$Reader" 125) (.string "FountainGivesChange$Reader" 127))) (by decide +kernel)
    have n13 := hs (.not (.eq (.string "FountainGivesChange$Reader" 125) (.string "FountainGivesChange$Reader" 128))) (by decide +kernel)
    have n14 := hs (.not (.eq (.string "FountainGivesChange$Reader" 125) (.string "FountainGivesChange$Reader" 130))) (by decide +kernel)
    have n15 := hs (.not (.eq (.string "FountainGivesChange$Reader" 125) (.string "FountainGivesChange$Reader" 132))) (by decide +kernel)
    have n16 := hs (.not (.eq (.string "FountainGivesChange$Reader" 125) (.string "FountainGivesChange$Reader" 134))) (by decide +kernel)
    have n23 := hs (.not (.eq (.string "FountainGivesChange$Reader" 127) (.string "FountainGivesChange$Reader" 128))) (by decide +kernel)
    have n24 := hs (.not (.eq (.string "FountainGivesChange$Reader" 127) (.string "FountainGivesChange$Reader" 130))) (by decide +kernel)
    have n25 := hs (.not (.eq (.string "FountainGivesChange$Reader" 127) (.string "FountainGivesChange$Reader" 132))) (by decide +kernel)
    have n26 := hs (.not (.eq (.string "FountainGivesChange$Reader" 127) (.string "FountainGivesChange$Reader" 134))) (by decide +kernel)
    have n34 := hs (.not (.eq (.string "FountainGivesChange$Reader" 128) (.string "FountainGivesChange$Reader" 130))) (by decide +kernel)
    have n35 := hs (.not (.eq (.string "FountainGivesChange$Reader" 128) (.string "FountainGivesChange$Reader" 132))) (by decide +kernel)
    have n36 := hs (.not (.eq (.string "FountainGivesChange$Reader" 128) (.string "FountainGivesChange$Reader" 134))) (by decide +kernel)
    have n45 := hs (.not (.eq (.string "FountainGivesChange$Reader" 130) (.string "FountainGivesChange$Reader" 132))) (by decide +kernel)
    have n46 := hs (.not (.eq (.string "FountainGivesChange$Reader" 130) (.string "FountainGivesChange$Reader" 134))) (by decide +kernel)
    have n56 := hs (.not (.eq (.string "FountainGivesChange$Reader" 132) (.string "FountainGivesChange$Reader" 134))) (by decide +kernel)
    intro i j hi hj e
    match i, hi, j, hj, e with
    | 0, _, 0, _, e => exact absurd rfl e
    | 0, _, 1, _, e => exact Or.inl n01
    | 0, _, 2, _, e => exact Or.inl n02
    | 0, _, 3, _, e => exact Or.inl n03
    | 0, _, 4, _, e => exact Or.inl n04
    | 0, _, 5, _, e => exact Or.inl n05
    | 0, _, 6, _, e => exact Or.inl n06
    | 1, _, 0, _, e => exact Or.inr n01
    | 1, _, 1, _, e => exact absurd rfl e
    | 1, _, 2, _, e => exact Or.inl n12
    | 1, _, 3, _, e => exact Or.inl n13
    | 1, _, 4, _, e => exact Or.inl n14
    | 1, _, 5, _, e => exact Or.inl n15
    | 1, _, 6, _, e => exact Or.inl n16
    | 2, _, 0, _, e => exact Or.inr n02
    | 2, _, 1, _, e => exact Or.inr n12
    | 2, _, 2, _, e => exact absurd rfl e
    | 2, _, 3, _, e => exact Or.inl n23
    | 2, _, 4, _, e => exact Or.inl n24
    | 2, _, 5, _, e => exact Or.inl n25
    | 2, _, 6, _, e => exact Or.inl n26
    | 3, _, 0, _, e => exact Or.inr n03
    | 3, _, 1, _, e => exact Or.inr n13
    | 3, _, 2, _, e => exact Or.inr n23
    | 3, _, 3, _, e => exact absurd rfl e
    | 3, _, 4, _, e => exact Or.inl n34
    | 3, _, 5, _, e => exact Or.inl n35
    | 3, _, 6, _, e => exact Or.inl n36
    | 4, _, 0, _, e => exact Or.inr n04
    | 4, _, 1, _, e => exact Or.inr n14
    | 4, _, 2, _, e => exact Or.inr n24
    | 4, _, 3, _, e => exact Or.inr n34
    | 4, _, 4, _, e => exact absurd rfl e
    | 4, _, 5, _, e => exact Or.inl n45
    | 4, _, 6, _, e => exact Or.inl n46
    | 5, _, 0, _, e => exact Or.inr n05
    | 5, _, 1, _, e => exact Or.inr n15
    | 5, _, 2, _, e => exact Or.inr n25
    | 5, _, 3, _, e => exact Or.inr n35
    | 5, _, 4, _, e => exact Or.inr n45
    | 5, _, 5, _, e => exact absurd rfl e
    | 5, _, 6, _, e => exact Or.inl n56
    | 6, _, 0, _, e => exact Or.inr n06
    | 6, _, 1, _, e => exact Or.inr n16
    | 6, _, 2, _, e => exact Or.inr n26
    | 6, _, 3, _, e => exact Or.inr n36
    | 6, _, 4, _, e => exact Or.inr n46
    | 6, _, 5, _, e => exact Or.inr n56
    | 6, _, 6, _, e => exact absurd rfl e
    | 0, _, j + 7, h, _ => omega
    | 1, _, j + 7, h, _ => omega
    | 2, _, j + 7, h, _ => omega
    | 3, _, j + 7, h, _ => omega
    | 4, _, j + 7, h, _ => omega
    | 5, _, j + 7, h, _ => omega
    | 6, _, j + 7, h, _ => omega
    | i + 7, h, _, _, _ => omega
  obtain ⟨adK, adV, hV, hev⟩ := vk_Sof (args := args) (s := s) (N := 7) (tm := tx_tm) (len := tx_N) (byt := tx_B) (A := A) (fun i _ => Nat.lt_trans (tx_Nlt i) (by decide)) hex hco har hle hel hne hA
  refine ⟨adK, ⟨⟨adV, hV⟩, va_Zof (hts _ (ab_wn_in (i := 2210) (by decide +kernel))) (hts _ (ab_wn_in (i := 1011) (by decide +kernel))) (va_eqt (hs (.eq (.static "java/lang/String" "COMPACT_STRINGS" "Z") (.int 1)) (by decide +kernel))) hA, va_Zqof (hts _ (ab_wn_in (i := 2226) (by decide +kernel))) (hts _ (ab_wn_in (i := 1013) (by decide +kernel))) (hs (.isRef (.static "jdk/internal/util/Preconditions" "SIOOBE_FORMATTER" "Ljava/util/function/BiFunction;")) (by decide +kernel)) hA⟩, fun q hq => ?_⟩
  simp only [tx_R, List.mem_cons, List.not_mem_nil, or_false] at hq
  rcases hq with rfl | rfl | rfl | rfl | rfl | rfl | rfl
  · exact vk_R.of (hts _ (ab_wn_in (i := 2190) (by decide +kernel))) (hev 0 (by decide))
  · exact vk_R.of (hts _ (ab_wn_in (i := 2191) (by decide +kernel))) (hev 1 (by decide))
  · exact vk_R.of (hts _ (ab_wn_in (i := 2192) (by decide +kernel))) (hev 2 (by decide))
  · exact vk_R.of (hts _ (ab_wn_in (i := 2193) (by decide +kernel))) (hev 3 (by decide))
  · exact vk_R.of (hts _ (ab_wn_in (i := 2194) (by decide +kernel))) (hev 4 (by decide))
  · exact vk_R.of (hts _ (ab_wn_in (i := 2195) (by decide +kernel))) (hev 5 (by decide))
  · exact vk_R.of (hts _ (ab_wn_in (i := 2196) (by decide +kernel))) (hev 6 (by decide))
