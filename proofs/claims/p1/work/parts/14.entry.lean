/-! from the law's entry: a run of the machine of worlds is the claim -/
theorem ab_Mt_more {l : Launch} {D : va_G} {cl : List vw_C} {K : ab_Q} {Cn : String} {Nl : ab_N} {Tb : List (List Int32)} {Sl : List (String × String)} {Ws : List Jvm.Cond} {md : ab_D} {d : Nat} {As : List Value} {cs : List ab_C} {v : Option Value} {cs2 : List ab_C} (h : ab_Mt l D cl K (Cn, Nl, Tb, Sl) Ws md d As cs v cs2) (T2 : List (List Int32)) : ab_Mt l D cl K (Cn, Nl, Tb ++ T2, Sl) Ws md d As cs v cs2 := by
  intro ad sz p e ha hc hk s m args below hf happ hP hT
  refine h ad sz p e ha hc hk s m args below hf happ ⟨hP.1, hP.2.1, hP.2.2.1, hP.2.2.2.1, hP.2.2.2.2.1, fun j t q => hP.2.2.2.2.2.1 j t ?_, hP.2.2.2.2.2.2⟩ hT
  show (Tb ++ T2)[j]? = some t
  rw [List.getElem?_append_left (List.getElem?_eq_some_iff.mp q).1]
  exact q
theorem ab_arr {s : State} {args : Array Value} {ty : FieldType} (h : (Jvm.Cond.arrayClass ty).before args s = true) : ∃ (cA : ClassId) (kA : Class) (comp : ClassId), s.vm.findClass ("[" ++ ty.toString) = some cA ∧ s.vm.classes[cA]? = some kA ∧ kA.kind = .array comp ty := Cond.arrayClass_spec h
/-- the classes, at the law's entry -/
theorem ab_world0 {s : State} {args : Array Value} (hts : ∀ w ∈ lw_tbl, w.before args s = true) (hc : ∀ (ci : Nat) (q : vw_C), vwCl[ci]? = some q → ∃ n, (Jvm.Cond.instantiable q.1 n).before args s = true) (hi : (Jvm.Cond.arrayClass .int).before args s = true) (hl : (Jvm.Cond.arrayClass .long).before args s = true) (ho : (Jvm.Cond.arrayOver (.object RX3)).before args s = true) :
    ∃ (D : va_G) (K : ab_Q), ab_WK D vwCl K (RX3, ab_Nl, ab_Tb, ab_Sl) s := by
  have hk : ∀ (ci : Nat), ∃ r : ClassId × (Nat → Nat), ∀ q : vw_C, vwCl[ci]? = some q → u_Kn s q.1 q.2.1 q.2.2 r.1 r.2 := by
    intro ci
    cases hq : vwCl[ci]? with
    | none => exact ⟨(0, fun _ => 0), fun q h => by cases h⟩
    | some q =>
      obtain ⟨C, T, N⟩ := q
      have hin : ∀ w ∈ u_ws C T N, w ∈ lw_tbl := by
        have hG : ∃ ty, ab_G ci = some (C, T, N, ty) := by
          match ci, hq with
          | 0, hq => cases hq; exact ⟨_, rfl⟩
          | 1, hq => cases hq; exact ⟨_, rfl⟩
          | 2, hq => cases hq; exact ⟨_, rfl⟩
          | 3, hq => cases hq; exact ⟨_, rfl⟩
          | 4, hq => cases hq; exact ⟨_, rfl⟩
          | 5, hq => cases hq; exact ⟨_, rfl⟩
          | 6, hq => cases hq; exact ⟨_, rfl⟩
          | ci + 7, hq => simp at hq
        obtain ⟨ty, hG⟩ := hG
        exact fun w hw => (ab_Ws_tbl w ((ab_cgW _ _ _ _ _ hG).2.1 w hw)).1
      obtain ⟨n, hn⟩ := hc ci _ hq
      obtain ⟨cC, iS, h⟩ := u_known (C := C) (T := T) (N := N) (n := n) hts hin hn
      exact ⟨(cC, iS), fun q h2 => by cases h2; exact h⟩
  obtain ⟨f, hf⟩ := Classical.axiomOfChoice hk
  obtain ⟨c1, k1, p1, a1, a2, a3⟩ := ab_arr hi
  obtain ⟨c2, k2, p2, b1, b2, b3⟩ := ab_arr hl
  obtain ⟨comp, c3, k3, d1, d2, d3, d4, d5⟩ := Cond.arrayOver_spec ho
  refine ⟨(fun ci => (f ci).1, fun ci => (f ci).2), (c1, c2, c3), ⟨fun ci q h => hf ci q h, fun k q h => ?_⟩, va_AO.of ho, fun q hq => va_Nw.of rfl (hts _ (ab_Nl_in q hq))⟩
  match k, h with
  | 0, h => cases h; exact ⟨fun n z => ⟨(fun k h => by cases h), k1, a2, p1, a3⟩, a1⟩
  | 1, h => cases h; exact ⟨fun n z => ⟨(fun k h => by cases h), k2, b2, p2, b3⟩, b1⟩
  | 2, h => cases h; exact ⟨fun n z => ⟨(fun k h => by cases h), k3, d3, comp, d4⟩, k3, comp, d3, d4, d1, d5⟩
  | k + 3, h => simp [ab_ty] at h

set_option maxRecDepth 20000 in
theorem ab_stat_ABOVE {s : State} {args : Array Value} (hts : ∀ w ∈ lw_tbl, w.before args s = true) (hgv : (Jvm.Cond.and given_1 narrow_1).before args s = true) {A : Nat → Prop} (hA : ∀ a : Nat, a < s.heap.size → ¬ A a) : ∃ t : Nat, va_T .int t 7 (fun i => .int (([-1, 0, 0, 1, 0, 2, 4] : List Int32).getD i 0)) A s s.heap ∧ va_Z "FountainGivesChange$Square" "ABOVE" "[I" (.ref t) A s s.heap := by
  have hs := flat_of_before _ hgv
  have hel : ∀ j : Nat, j < 7 → (Term.elem (.static "FountainGivesChange$Square" "ABOVE" "[I") (.int (Int32.ofNat j))).eval args s none [] s = some ((fun i => Value.int (([-1, 0, 0, 1, 0, 2, 4] : List Int32).getD i 0)) j) := by
    intro j hj
    match j, hj with
    | 0, _ => exact va_eqt (hs (.eq (.elem (.static "FountainGivesChange$Square" "ABOVE" "[I") (.int 0)) (.int (-1))) (by decide +kernel))
    | 1, _ => exact va_eqt (hs (.eq (.elem (.static "FountainGivesChange$Square" "ABOVE" "[I") (.int 1)) (.int (0))) (by decide +kernel))
    | 2, _ => exact va_eqt (hs (.eq (.elem (.static "FountainGivesChange$Square" "ABOVE" "[I") (.int 2)) (.int (0))) (by decide +kernel))
    | 3, _ => exact va_eqt (hs (.eq (.elem (.static "FountainGivesChange$Square" "ABOVE" "[I") (.int 3)) (.int (1))) (by decide +kernel))
    | 4, _ => exact va_eqt (hs (.eq (.elem (.static "FountainGivesChange$Square" "ABOVE" "[I") (.int 4)) (.int (0))) (by decide +kernel))
    | 5, _ => exact va_eqt (hs (.eq (.elem (.static "FountainGivesChange$Square" "ABOVE" "[I") (.int 5)) (.int (2))) (by decide +kernel))
    | 6, _ => exact va_eqt (hs (.eq (.elem (.static "FountainGivesChange$Square" "ABOVE" "[I") (.int 6)) (.int (4))) (by decide +kernel))
    | j + 7, h => omega
  obtain ⟨t, ht, hT⟩ := va_Tof (tm := (.static "FountainGivesChange$Square" "ABOVE" "[I")) (ty := .int) (N := 7) (f := fun i => .int (([-1, 0, 0, 1, 0, 2, 4] : List Int32).getD i 0)) (A := A) (by decide) (hs (.arrayOf (.static "FountainGivesChange$Square" "ABOVE" "[I") .int) (by decide +kernel)) (va_eqt (hs (.eq (.length (.static "FountainGivesChange$Square" "ABOVE" "[I")) (.int 7)) (by decide +kernel))) hel hA
  exact ⟨t, hT, va_Zref (hts _ (ab_wn_in (i := 2081) (by decide +kernel))) (hts _ (ab_wn_in (i := 1002) (by decide +kernel))) ht hA⟩
set_option maxRecDepth 20000 in
theorem ab_stat_BODIES {s : State} {args : Array Value} (hts : ∀ w ∈ lw_tbl, w.before args s = true) (hgv : (Jvm.Cond.and given_1 narrow_1).before args s = true) {A : Nat → Prop} (hA : ∀ a : Nat, a < s.heap.size → ¬ A a) : ∃ t : Nat, va_T .int t 21 (fun i => .int (([10, 20, 0, 40, 51, 0, 70, 11, 0, 30, 0, 0, 0, 71, 12, 0, 0, 0, 50, 60, 0] : List Int32).getD i 0)) A s s.heap ∧ va_Z "FountainGivesChange$Moves" "BODIES" "[I" (.ref t) A s s.heap := by
  have hs := flat_of_before _ hgv
  have hel : ∀ j : Nat, j < 21 → (Term.elem (.static "FountainGivesChange$Moves" "BODIES" "[I") (.int (Int32.ofNat j))).eval args s none [] s = some ((fun i => Value.int (([10, 20, 0, 40, 51, 0, 70, 11, 0, 30, 0, 0, 0, 71, 12, 0, 0, 0, 50, 60, 0] : List Int32).getD i 0)) j) := by
    intro j hj
    match j, hj with
    | 0, _ => exact va_eqt (hs (.eq (.elem (.static "FountainGivesChange$Moves" "BODIES" "[I") (.int 0)) (.int (10))) (by decide +kernel))
    | 1, _ => exact va_eqt (hs (.eq (.elem (.static "FountainGivesChange$Moves" "BODIES" "[I") (.int 1)) (.int (20))) (by decide +kernel))
    | 2, _ => exact va_eqt (hs (.eq (.elem (.static "FountainGivesChange$Moves" "BODIES" "[I") (.int 2)) (.int (0))) (by decide +kernel))
    | 3, _ => exact va_eqt (hs (.eq (.elem (.static "FountainGivesChange$Moves" "BODIES" "[I") (.int 3)) (.int (40))) (by decide +kernel))
    | 4, _ => exact va_eqt (hs (.eq (.elem (.static "FountainGivesChange$Moves" "BODIES" "[I") (.int 4)) (.int (51))) (by decide +kernel))
    | 5, _ => exact va_eqt (hs (.eq (.elem (.static "FountainGivesChange$Moves" "BODIES" "[I") (.int 5)) (.int (0))) (by decide +kernel))
    | 6, _ => exact va_eqt (hs (.eq (.elem (.static "FountainGivesChange$Moves" "BODIES" "[I") (.int 6)) (.int (70))) (by decide +kernel))
    | 7, _ => exact va_eqt (hs (.eq (.elem (.static "FountainGivesChange$Moves" "BODIES" "[I") (.int 7)) (.int (11))) (by decide +kernel))
    | 8, _ => exact va_eqt (hs (.eq (.elem (.static "FountainGivesChange$Moves" "BODIES" "[I") (.int 8)) (.int (0))) (by decide +kernel))
    | 9, _ => exact va_eqt (hs (.eq (.elem (.static "FountainGivesChange$Moves" "BODIES" "[I") (.int 9)) (.int (30))) (by decide +kernel))
    | 10, _ => exact va_eqt (hs (.eq (.elem (.static "FountainGivesChange$Moves" "BODIES" "[I") (.int 10)) (.int (0))) (by decide +kernel))
    | 11, _ => exact va_eqt (hs (.eq (.elem (.static "FountainGivesChange$Moves" "BODIES" "[I") (.int 11)) (.int (0))) (by decide +kernel))
    | 12, _ => exact va_eqt (hs (.eq (.elem (.static "FountainGivesChange$Moves" "BODIES" "[I") (.int 12)) (.int (0))) (by decide +kernel))
    | 13, _ => exact va_eqt (hs (.eq (.elem (.static "FountainGivesChange$Moves" "BODIES" "[I") (.int 13)) (.int (71))) (by decide +kernel))
    | 14, _ => exact va_eqt (hs (.eq (.elem (.static "FountainGivesChange$Moves" "BODIES" "[I") (.int 14)) (.int (12))) (by decide +kernel))
    | 15, _ => exact va_eqt (hs (.eq (.elem (.static "FountainGivesChange$Moves" "BODIES" "[I") (.int 15)) (.int (0))) (by decide +kernel))
    | 16, _ => exact va_eqt (hs (.eq (.elem (.static "FountainGivesChange$Moves" "BODIES" "[I") (.int 16)) (.int (0))) (by decide +kernel))
    | 17, _ => exact va_eqt (hs (.eq (.elem (.static "FountainGivesChange$Moves" "BODIES" "[I") (.int 17)) (.int (0))) (by decide +kernel))
    | 18, _ => exact va_eqt (hs (.eq (.elem (.static "FountainGivesChange$Moves" "BODIES" "[I") (.int 18)) (.int (50))) (by decide +kernel))
    | 19, _ => exact va_eqt (hs (.eq (.elem (.static "FountainGivesChange$Moves" "BODIES" "[I") (.int 19)) (.int (60))) (by decide +kernel))
    | 20, _ => exact va_eqt (hs (.eq (.elem (.static "FountainGivesChange$Moves" "BODIES" "[I") (.int 20)) (.int (0))) (by decide +kernel))
    | j + 21, h => omega
  obtain ⟨t, ht, hT⟩ := va_Tof (tm := (.static "FountainGivesChange$Moves" "BODIES" "[I")) (ty := .int) (N := 21) (f := fun i => .int (([10, 20, 0, 40, 51, 0, 70, 11, 0, 30, 0, 0, 0, 71, 12, 0, 0, 0, 50, 60, 0] : List Int32).getD i 0)) (A := A) (by decide) (hs (.arrayOf (.static "FountainGivesChange$Moves" "BODIES" "[I") .int) (by decide +kernel)) (va_eqt (hs (.eq (.length (.static "FountainGivesChange$Moves" "BODIES" "[I")) (.int 21)) (by decide +kernel))) hel hA
  exact ⟨t, hT, va_Zref (hts _ (ab_wn_in (i := 4065) (by decide +kernel))) (hts _ (ab_wn_in (i := 1005) (by decide +kernel))) ht hA⟩
theorem ab_inst {s : State} {args : Array Value} (hts : ∀ w ∈ lw_tbl, w.before args s = true) : ∀ (ci : Nat) (q : vw_C), vwCl[ci]? = some q → ∃ n, (Jvm.Cond.instantiable q.1 n).before args s = true := by
  intro ci q hq
  match ci, hq with
  | 0, hq => cases hq; exact ⟨1, hts _ (ab_wn_in (i := 1103) (by decide +kernel))⟩
  | 1, hq => cases hq; exact ⟨5, hts _ (ab_wn_in (i := 1142) (by decide +kernel))⟩
  | 2, hq => cases hq; exact ⟨6, hts _ (ab_wn_in (i := 1113) (by decide +kernel))⟩
  | 3, hq => cases hq; exact ⟨3, hts _ (ab_wn_in (i := 1164) (by decide +kernel))⟩
  | 4, hq => cases hq; exact ⟨15, hts _ (ab_wn_in (i := 1025) (by decide +kernel))⟩
  | 5, hq => cases hq; exact ⟨10, hts _ (ab_wn_in (i := 1017) (by decide +kernel))⟩
  | 6, hq => cases hq; exact ⟨49, hts _ (ab_wn_in (i := 4092) (by decide +kernel))⟩
  | ci + 7, hq => simp at hq
theorem ab_world {s : State} {args : Array Value} (hts : ∀ w ∈ lw_tbl, w.before args s = true) : ∃ (D : va_G) (K : ab_Q), ab_WK D vwCl K (RX3, ab_Nl, ab_Tb, ab_Sl) s :=
  ab_world0 hts (ab_inst hts) (hts _ (ab_wn_in (i := 1099) (by decide +kernel))) (hts _ (ab_wn_in (i := 1181) (by decide +kernel))) (hts _ (ab_wn_in (i := 1101) (by decide +kernel)))
