/-! greedy change; by program (wip/tools/gr.py) -/
/-- an option in a number: 0 is none (-1), k + 1 is k -/
def qE : Nat → Int32
  | 0 => -1
  | k + 1 => nI k
/-- the worth of the found piece; 0: none -/
def qGt (s : ab_q) : Nat → Nat
  | 0 => 0
  | k + 1 => qWorth s k
/-- the piece of most worth, up to l, among the first i of u; the first of equals -/
def qPk (s : ab_q) (l u : Nat) : Nat → Nat
  | 0 => 0
  | i + 1 => if qBit u i = 1 ∧ qWorth s i ≤ l ∧ qGt s (qPk s l u i) < qWorth s i then i + 1 else qPk s l u i
theorem qPk_1 {s : ab_q} {l u i : Nat} (h1 : qBit u i = 1) (h2 : qWorth s i ≤ l) (h3 : qGt s (qPk s l u i) < qWorth s i) : qPk s l u (i + 1) = i + 1 := if_pos ⟨h1, h2, h3⟩
theorem qPk_0 {s : ab_q} {l u i : Nat} (h : ¬ (qBit u i = 1 ∧ qWorth s i ≤ l ∧ qGt s (qPk s l u i) < qWorth s i)) : qPk s l u (i + 1) = qPk s l u i := if_neg h
theorem qPk_le (s : ab_q) (l u : Nat) : ∀ i, qPk s l u i ≤ i
  | 0 => Nat.le_refl _
  | i + 1 => by
    have := qPk_le s l u i
    show (if _ then _ else _) ≤ _
    split
    · exact Nat.le_refl _
    · exact Nat.le_succ_of_le this
theorem qGt_in {s : ab_q} (I : qI s) {l u i : Nat} (hi : i ≤ qN s) : qGt s (qPk s l u i) ≤ 59 := by
  have := qPk_le s l u i
  generalize qPk s l u i = k at *
  cases k with
  | zero => exact Nat.zero_le _
  | succ k => exact (qWorth_in I (by omega)).2
theorem sq_greatestUpTo_l {cs : List ab_C} {b : Nat} {s : ab_q} {l u : Nat} {r : Option Value × List ab_C} (h : qAt cs b s) (I : qI s) (hl : l < 2 ^ 31) (hu : u < 2 ^ 31) (K : ∀ v6, Ef ab_Z0 1 mX4_greatestUpTo (60, [some (.ref b), some (.int (nI l)), some (.int (nI u)), some (.int (qE (qPk s l u (qN s)))), some (.int (nI (qGt s (qPk s l u (qN s))))), some (.int (nI (qN s))), v6], [], cs) r) : ∀ n i v6, i + n = qN s → Ef ab_Z0 1 mX4_greatestUpTo (8, [some (.ref b), some (.int (nI l)), some (.int (nI u)), some (.int (qE (qPk s l u i))), some (.int (nI (qGt s (qPk s l u i)))), some (.int (nI i)), v6], [], cs) r := by
  have hh := h
  obtain ⟨h0, h1, h2, h3, h4, h5, h6, h7, h8, h9⟩ := h
  obtain ⟨⟨i0, i1, i2, i3⟩, ⟨i4, i5, i6, i7, i8⟩, ⟨i9, i10⟩, I1, I2, I3, I4⟩ := id I
  have h := hh
  intro n
  induction n with
  | zero =>
    intro i v6 hi
    obtain rfl : i = qN s := by omega
    refine E_iload rfl rfl ?_
    refine E_aload_n rfl rfl ?_
    refine E_getfield (v := .int (nI (qN s))) rfl h0 rfl (by decide) rfl ?_
    refine E_ic (t := 60) (b := true) rfl rfl ((cn_geN (by omega) (by omega)).trans (decide_eq_true (by omega))) ?_
    exact K _
  | succ n ih =>
    intro i v6 hi
    have J := qWorth_in I (x := i) (by omega)
    have G := qGt_in I (l := l) (u := u) (i := i) (by omega)
    rcases qBit2 u i with e | e
    · have X := ih (i + 1) (some (.int (nI (qWorth s i)))) (by omega)
      rw [qPk_0 (fun q => by omega)] at X
      refine E_iload rfl rfl ?_
      refine E_aload_n rfl rfl ?_
      refine E_getfield (v := .int (nI (qN s))) rfl h0 rfl (by decide) rfl ?_
      refine E_ic (t := 60) (b := false) rfl rfl ((cn_geN (by omega) (by omega)).trans (decide_eq_false (by omega))) ?_
      refine E_aload_n rfl rfl ?_
      refine E_iload rfl rfl ?_
      refine E_callV (v := some (.int (nI (qWorth s i)))) (As := [.ref b, .int (nI i)]) (r0 := []) (cs2 := cs) rfl rfl rfl (Nat.le_of_ble_eq_true rfl) rfl (ab_rvOf h0 rfl) (sq_worthOf h I (by omega)) (by decide) rfl ?_
      refine E_istore (L2 := [some (.ref b), some (.int (nI l)), some (.int (nI u)), some (.int (qE (qPk s l u i))), some (.int (nI (qGt s (qPk s l u i)))), some (.int (nI i)), some (.int (nI (qWorth s i)))]) rfl rfl ?_
      refine E_iload_n rfl rfl ?_
      refine E_iload rfl rfl ?_
      refine E_callS (v := some (.int (nI 0))) (As := [.int (nI u), .int (nI i)]) (r0 := []) (cs2 := cs) rfl rfl rfl (Nat.le_of_ble_eq_true rfl) rfl (e ▸ sq_isBit hu (by omega)) (by decide) rfl ?_
      refine E_if (t := 54) (b := true) rfl rfl (by decide) ?_
      refine E_iinc (y := nI (i + 1)) (L2 := [some (.ref b), some (.int (nI l)), some (.int (nI u)), some (.int (qE (qPk s l u i))), some (.int (nI (qGt s (qPk s l u i)))), some (.int (nI (i + 1))), some (.int (nI (qWorth s i)))]) rfl rfl (nI_1 _) rfl ?_
      refine E_goto (t := 8) rfl rfl ?_
      exact X
    · by_cases c1 : qWorth s i ≤ l
      · by_cases c2 : qGt s (qPk s l u i) < qWorth s i
        · have X := ih (i + 1) (some (.int (nI (qWorth s i)))) (by omega)
          rw [qPk_1 e c1 c2] at X
          refine E_iload rfl rfl ?_
          refine E_aload_n rfl rfl ?_
          refine E_getfield (v := .int (nI (qN s))) rfl h0 rfl (by decide) rfl ?_
          refine E_ic (t := 60) (b := false) rfl rfl ((cn_geN (by omega) (by omega)).trans (decide_eq_false (by omega))) ?_
          refine E_aload_n rfl rfl ?_
          refine E_iload rfl rfl ?_
          refine E_callV (v := some (.int (nI (qWorth s i)))) (As := [.ref b, .int (nI i)]) (r0 := []) (cs2 := cs) rfl rfl rfl (Nat.le_of_ble_eq_true rfl) rfl (ab_rvOf h0 rfl) (sq_worthOf h I (by omega)) (by decide) rfl ?_
          refine E_istore (L2 := [some (.ref b), some (.int (nI l)), some (.int (nI u)), some (.int (qE (qPk s l u i))), some (.int (nI (qGt s (qPk s l u i)))), some (.int (nI i)), some (.int (nI (qWorth s i)))]) rfl rfl ?_
          refine E_iload_n rfl rfl ?_
          refine E_iload rfl rfl ?_
          refine E_callS (v := some (.int (nI 1))) (As := [.int (nI u), .int (nI i)]) (r0 := []) (cs2 := cs) rfl rfl rfl (Nat.le_of_ble_eq_true rfl) rfl (e ▸ sq_isBit hu (by omega)) (by decide) rfl ?_
          refine E_if (t := 54) (b := false) rfl rfl (by decide) ?_
          refine E_iload rfl rfl ?_
          refine E_iload_n rfl rfl ?_
          refine E_ic (t := 54) (b := false) rfl rfl ((cn_gtN (by omega) (by omega)).trans (decide_eq_false (by omega))) ?_
          refine E_iload rfl rfl ?_
          refine E_iload rfl rfl ?_
          refine E_ic (t := 54) (b := false) rfl rfl ((cn_leN (by omega) (by omega)).trans (decide_eq_false (by omega))) ?_
          refine E_iload rfl rfl ?_
          refine E_istore (L2 := [some (.ref b), some (.int (nI l)), some (.int (nI u)), some (.int (qE (qPk s l u i))), some (.int (nI (qWorth s i))), some (.int (nI i)), some (.int (nI (qWorth s i)))]) rfl rfl ?_
          refine E_iload rfl rfl ?_
          refine E_istore_n (L2 := [some (.ref b), some (.int (nI l)), some (.int (nI u)), some (.int (nI i)), some (.int (nI (qWorth s i))), some (.int (nI i)), some (.int (nI (qWorth s i)))]) rfl rfl ?_
          refine E_iinc (y := nI (i + 1)) (L2 := [some (.ref b), some (.int (nI l)), some (.int (nI u)), some (.int (nI i)), some (.int (nI (qWorth s i))), some (.int (nI (i + 1))), some (.int (nI (qWorth s i)))]) rfl rfl (nI_1 _) rfl ?_
          refine E_goto (t := 8) rfl rfl ?_
          exact X
        · have X := ih (i + 1) (some (.int (nI (qWorth s i)))) (by omega)
          rw [qPk_0 (fun q => c2 q.2.2)] at X
          refine E_iload rfl rfl ?_
          refine E_aload_n rfl rfl ?_
          refine E_getfield (v := .int (nI (qN s))) rfl h0 rfl (by decide) rfl ?_
          refine E_ic (t := 60) (b := false) rfl rfl ((cn_geN (by omega) (by omega)).trans (decide_eq_false (by omega))) ?_
          refine E_aload_n rfl rfl ?_
          refine E_iload rfl rfl ?_
          refine E_callV (v := some (.int (nI (qWorth s i)))) (As := [.ref b, .int (nI i)]) (r0 := []) (cs2 := cs) rfl rfl rfl (Nat.le_of_ble_eq_true rfl) rfl (ab_rvOf h0 rfl) (sq_worthOf h I (by omega)) (by decide) rfl ?_
          refine E_istore (L2 := [some (.ref b), some (.int (nI l)), some (.int (nI u)), some (.int (qE (qPk s l u i))), some (.int (nI (qGt s (qPk s l u i)))), some (.int (nI i)), some (.int (nI (qWorth s i)))]) rfl rfl ?_
          refine E_iload_n rfl rfl ?_
          refine E_iload rfl rfl ?_
          refine E_callS (v := some (.int (nI 1))) (As := [.int (nI u), .int (nI i)]) (r0 := []) (cs2 := cs) rfl rfl rfl (Nat.le_of_ble_eq_true rfl) rfl (e ▸ sq_isBit hu (by omega)) (by decide) rfl ?_
          refine E_if (t := 54) (b := false) rfl rfl (by decide) ?_
          refine E_iload rfl rfl ?_
          refine E_iload_n rfl rfl ?_
          refine E_ic (t := 54) (b := false) rfl rfl ((cn_gtN (by omega) (by omega)).trans (decide_eq_false (by omega))) ?_
          refine E_iload rfl rfl ?_
          refine E_iload rfl rfl ?_
          refine E_ic (t := 54) (b := true) rfl rfl ((cn_leN (by omega) (by omega)).trans (decide_eq_true (by omega))) ?_
          refine E_iinc (y := nI (i + 1)) (L2 := [some (.ref b), some (.int (nI l)), some (.int (nI u)), some (.int (qE (qPk s l u i))), some (.int (nI (qGt s (qPk s l u i)))), some (.int (nI (i + 1))), some (.int (nI (qWorth s i)))]) rfl rfl (nI_1 _) rfl ?_
          refine E_goto (t := 8) rfl rfl ?_
          exact X
      · have X := ih (i + 1) (some (.int (nI (qWorth s i)))) (by omega)
        rw [qPk_0 (fun q => c1 q.2.1)] at X
        refine E_iload rfl rfl ?_
        refine E_aload_n rfl rfl ?_
        refine E_getfield (v := .int (nI (qN s))) rfl h0 rfl (by decide) rfl ?_
        refine E_ic (t := 60) (b := false) rfl rfl ((cn_geN (by omega) (by omega)).trans (decide_eq_false (by omega))) ?_
        refine E_aload_n rfl rfl ?_
        refine E_iload rfl rfl ?_
        refine E_callV (v := some (.int (nI (qWorth s i)))) (As := [.ref b, .int (nI i)]) (r0 := []) (cs2 := cs) rfl rfl rfl (Nat.le_of_ble_eq_true rfl) rfl (ab_rvOf h0 rfl) (sq_worthOf h I (by omega)) (by decide) rfl ?_
        refine E_istore (L2 := [some (.ref b), some (.int (nI l)), some (.int (nI u)), some (.int (qE (qPk s l u i))), some (.int (nI (qGt s (qPk s l u i)))), some (.int (nI i)), some (.int (nI (qWorth s i)))]) rfl rfl ?_
        refine E_iload_n rfl rfl ?_
        refine E_iload rfl rfl ?_
        refine E_callS (v := some (.int (nI 1))) (As := [.int (nI u), .int (nI i)]) (r0 := []) (cs2 := cs) rfl rfl rfl (Nat.le_of_ble_eq_true rfl) rfl (e ▸ sq_isBit hu (by omega)) (by decide) rfl ?_
        refine E_if (t := 54) (b := false) rfl rfl (by decide) ?_
        refine E_iload rfl rfl ?_
        refine E_iload_n rfl rfl ?_
        refine E_ic (t := 54) (b := true) rfl rfl ((cn_gtN (by omega) (by omega)).trans (decide_eq_true (by omega))) ?_
        refine E_iinc (y := nI (i + 1)) (L2 := [some (.ref b), some (.int (nI l)), some (.int (nI u)), some (.int (qE (qPk s l u i))), some (.int (nI (qGt s (qPk s l u i)))), some (.int (nI (i + 1))), some (.int (nI (qWorth s i)))]) rfl rfl (nI_1 _) rfl ?_
        refine E_goto (t := 8) rfl rfl ?_
        exact X
theorem sq_greatestUpTo {cs : List ab_C} {b : Nat} {s : ab_q} {l u : Nat} (h : qAt cs b s) (I : qI s) (hl : l < 2 ^ 31) (hu : u < 2 ^ 31) : Ev ab_Z0 2 70 [.ref b, .int (nI l), .int (nI u)] cs (some (.int (qE (qPk s l u (qN s)))), cs) := by
  have hh := h
  refine Ef.in (md := mX4_greatestUpTo) (L := [some (.ref b), some (.int (nI l)), some (.int (nI u)), none, none, none, none]) rfl (Nat.le_of_ble_eq_true rfl) rfl ?_
  refine E_iconst (x := (-1)) rfl (by decide) ?_
  refine E_istore_n (L2 := [some (.ref b), some (.int (nI l)), some (.int (nI u)), some (.int (-1)), none, none, none]) rfl rfl ?_
  refine E_iconst (x := nI 0) rfl (by decide) ?_
  refine E_istore (L2 := [some (.ref b), some (.int (nI l)), some (.int (nI u)), some (.int (-1)), some (.int (nI 0)), none, none]) rfl rfl ?_
  refine E_iconst (x := nI 0) rfl (by decide) ?_
  refine E_istore (L2 := [some (.ref b), some (.int (nI l)), some (.int (nI u)), some (.int (-1)), some (.int (nI 0)), some (.int (nI 0)), none]) rfl rfl ?_
  refine sq_greatestUpTo_l hh I hl hu (fun v6 => ?_) (qN s) 0 _ (by omega)
  refine E_iload_n rfl rfl ?_
  exact E_iret rfl rfl
