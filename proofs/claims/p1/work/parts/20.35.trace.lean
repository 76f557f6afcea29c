theorem f_trace_1 (a1 : Int32) (ha1h : a1.toInt ≤ -1) : p1_P 2 111 1 209 [.ref 0, .int a1] [.ref 65, .int a1] :=
  ⟨(-1), w0, w0, by
    refine Ef.in (md := mX5_trace) (L := [some (.ref 0), some (.int a1)]) rfl (Nat.le_of_ble_eq_true rfl) rfl ?_
    refine E_aload_n rfl rfl ?_
    refine E_getfield (v := .ref 46) rfl rfl rfl (by decide) rfl ?_
    refine E_iload_n rfl rfl ?_
    have e4 : Ev ab_Z0 1 7 [.ref 46, .int a1] w0 (some (.int (-1)), w0) := by
      refine Ef.in (md := mX1_bodyAt) (L := [some (.ref 46), some (.int a1)]) rfl (Nat.le_of_ble_eq_true rfl) rfl ?_
      refine E_iload_n rfl rfl ?_
      refine E_if (t := 27) (b := true) rfl rfl ((cn_lt (rfl : (a1).toInt = (a1).toInt) (by decide : (0 : Int32).toInt = 0)).trans (decide_eq_true (by omega))) ?_
      refine E_iconst (x := (-1)) rfl (by decide) ?_
      exact E_iret rfl rfl
    refine E_callV (v := some (.int (-1))) (As := [.ref 46, .int a1]) (r0 := []) (cs2 := w0) rfl rfl rfl (Nat.le_of_ble_eq_true rfl) rfl rfl e4 (by decide) rfl ?_
    exact E_iret rfl rfl, by
    refine Ef.in (md := mX6_trace) (L := [some (.ref 65), some (.int a1)]) rfl (Nat.le_of_ble_eq_true rfl) rfl ?_
    refine E_iload_n rfl rfl ?_
    refine E_if (t := 27) (b := true) rfl rfl ((cn_lt (rfl : (a1).toInt = (a1).toInt) (by decide : (0 : Int32).toInt = 0)).trans (decide_eq_true (by omega))) ?_
    refine E_iconst (x := (-1)) rfl (by decide) ?_
    exact E_iret rfl rfl, rfl, rfl, rfl, fun _ => rfl⟩
theorem f_trace_2 (a1 : Int32) (ha1l : (0 : Int) ≤ a1.toInt) (ha1h : a1.toInt ≤ 19) : p1_P 2 111 1 209 [.ref 0, .int a1] [.ref 65, .int a1] :=
  ⟨(-1), w0, w0, by
    refine Ef.in (md := mX5_trace) (L := [some (.ref 0), some (.int a1)]) rfl (Nat.le_of_ble_eq_true rfl) rfl ?_
    refine E_aload_n rfl rfl ?_
    refine E_getfield (v := .ref 46) rfl rfl rfl (by decide) rfl ?_
    refine E_iload_n rfl rfl ?_
    have e4 : Ev ab_Z0 1 7 [.ref 46, .int a1] w0 (some (.int (-1)), w0) := by
      refine Ef.in (md := mX1_bodyAt) (L := [some (.ref 46), some (.int a1)]) rfl (Nat.le_of_ble_eq_true rfl) rfl ?_
      refine E_iload_n rfl rfl ?_
      refine E_if (t := 27) (b := false) rfl rfl ((cn_lt (rfl : (a1).toInt = (a1).toInt) (by decide : (0 : Int32).toInt = 0)).trans (decide_eq_false (by omega))) ?_
      refine E_iload_n rfl rfl ?_
      refine E_aload_n rfl rfl ?_
      refine E_getfield (v := .int 0) rfl rfl rfl (by decide) rfl ?_
      refine E_ic (t := 27) (b := true) rfl rfl ((cn_ge (rfl : (a1).toInt = (a1).toInt) (by decide : (0 : Int32).toInt = 0)).trans (decide_eq_true (by omega))) ?_
      refine E_iconst (x := (-1)) rfl (by decide) ?_
      exact E_iret rfl rfl
    refine E_callV (v := some (.int (-1))) (As := [.ref 46, .int a1]) (r0 := []) (cs2 := w0) rfl rfl rfl (Nat.le_of_ble_eq_true rfl) rfl rfl e4 (by decide) rfl ?_
    exact E_iret rfl rfl, by
    refine Ef.in (md := mX6_trace) (L := [some (.ref 65), some (.int a1)]) rfl (Nat.le_of_ble_eq_true rfl) rfl ?_
    refine E_iload_n rfl rfl ?_
    refine E_if (t := 27) (b := false) rfl rfl ((cn_lt (rfl : (a1).toInt = (a1).toInt) (by decide : (0 : Int32).toInt = 0)).trans (decide_eq_false (by omega))) ?_
    refine E_iload_n rfl rfl ?_
    refine E_bipush (x := 20) rfl (by decide) ?_
    refine E_ic (t := 27) (b := false) rfl rfl ((cn_ge (rfl : (a1).toInt = (a1).toInt) (by decide : (20 : Int32).toInt = 20)).trans (decide_eq_false (by omega))) ?_
    refine E_iload_n rfl rfl ?_
    refine E_aload_n rfl rfl ?_
    refine E_getfield (v := .int 0) rfl rfl rfl (by decide) rfl ?_
    refine E_ic (t := 27) (b := true) rfl rfl ((cn_ge (rfl : (a1).toInt = (a1).toInt) (by decide : (0 : Int32).toInt = 0)).trans (decide_eq_true (by omega))) ?_
    refine E_iconst (x := (-1)) rfl (by decide) ?_
    exact E_iret rfl rfl, rfl, rfl, rfl, fun _ => rfl⟩
theorem f_trace_3 (a1 : Int32) (ha1l : (20 : Int) ≤ a1.toInt) : p1_P 2 111 1 209 [.ref 0, .int a1] [.ref 65, .int a1] :=
  ⟨(-1), w0, w0, by
    refine Ef.in (md := mX5_trace) (L := [some (.ref 0), some (.int a1)]) rfl (Nat.le_of_ble_eq_true rfl) rfl ?_
    refine E_aload_n rfl rfl ?_
    refine E_getfield (v := .ref 46) rfl rfl rfl (by decide) rfl ?_
    refine E_iload_n rfl rfl ?_
    have e4 : Ev ab_Z0 1 7 [.ref 46, .int a1] w0 (some (.int (-1)), w0) := by
      refine Ef.in (md := mX1_bodyAt) (L := [some (.ref 46), some (.int a1)]) rfl (Nat.le_of_ble_eq_true rfl) rfl ?_
      refine E_iload_n rfl rfl ?_
      refine E_if (t := 27) (b := false) rfl rfl ((cn_lt (rfl : (a1).toInt = (a1).toInt) (by decide : (0 : Int32).toInt = 0)).trans (decide_eq_false (by omega))) ?_
      refine E_iload_n rfl rfl ?_
      refine E_aload_n rfl rfl ?_
      refine E_getfield (v := .int 0) rfl rfl rfl (by decide) rfl ?_
      refine E_ic (t := 27) (b := true) rfl rfl ((cn_ge (rfl : (a1).toInt = (a1).toInt) (by decide : (0 : Int32).toInt = 0)).trans (decide_eq_true (by omega))) ?_
      refine E_iconst (x := (-1)) rfl (by decide) ?_
      exact E_iret rfl rfl
    refine E_callV (v := some (.int (-1))) (As := [.ref 46, .int a1]) (r0 := []) (cs2 := w0) rfl rfl rfl (Nat.le_of_ble_eq_true rfl) rfl rfl e4 (by decide) rfl ?_
    exact E_iret rfl rfl, by
    refine Ef.in (md := mX6_trace) (L := [some (.ref 65), some (.int a1)]) rfl (Nat.le_of_ble_eq_true rfl) rfl ?_
    refine E_iload_n rfl rfl ?_
    refine E_if (t := 27) (b := false) rfl rfl ((cn_lt (rfl : (a1).toInt = (a1).toInt) (by decide : (0 : Int32).toInt = 0)).trans (decide_eq_false (by omega))) ?_
    refine E_iload_n rfl rfl ?_
    refine E_bipush (x := 20) rfl (by decide) ?_
    refine E_ic (t := 27) (b := true) rfl rfl ((cn_ge (rfl : (a1).toInt = (a1).toInt) (by decide : (20 : Int32).toInt = 20)).trans (decide_eq_true (by omega))) ?_
    refine E_iconst (x := (-1)) rfl (by decide) ?_
    exact E_iret rfl rfl, rfl, rfl, rfl, fun _ => rfl⟩
theorem f_trace (a1 : Int32) : p1_P 2 111 1 209 [.ref 0, .int a1] [.ref 65, .int a1] := by
  rcases ab_ltge a1.toInt (0) with h | h
  · exact f_trace_1 a1 (by omega)
  rcases ab_ltge a1.toInt (20) with h | h
  · exact f_trace_2 a1 (by omega) (by omega)
  exact f_trace_3 a1 (by omega)
