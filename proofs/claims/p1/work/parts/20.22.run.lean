theorem c256_X5_run : Ev ab_Z0 5 98 [.ref 0, .int (-1)] w0 (some (.int 0), w0) := by
  refine Ef.in (md := mX5_run) (L := [some (.ref 0), some (.int (-1)), none, none]) rfl (Nat.le_of_ble_eq_true rfl) rfl ?_
  refine E_iload_n rfl rfl ?_
  refine E_iconst (x := (-1)) rfl (by decide) ?_
  refine E_ic (t := 16) (b := false) rfl rfl (by decide) ?_
  refine E_iload_n rfl rfl ?_
  refine E_aload_n rfl rfl ?_
  refine E_getfield (v := .ref 1) rfl rfl rfl (by decide) rfl ?_
  refine E_getfield (v := .int 0) rfl rfl rfl (by decide) rfl ?_
  refine E_ic (t := 22) (b := true) rfl rfl (by decide) ?_
  refine E_iload_n rfl rfl ?_
  refine E_iconst (x := (-1)) rfl (by decide) ?_
  refine E_ic (t := 29) (b := true) rfl rfl (by decide) ?_
  refine E_iconst (x := 0) rfl (by decide) ?_
  refine E_istore_n (L2 := [some (.ref 0), some (.int (-1)), some (.int 0), none]) rfl rfl ?_
  refine E_iconst (x := 0) rfl (by decide) ?_
  refine E_istore_n (L2 := [some (.ref 0), some (.int (-1)), some (.int 0), some (.int 0)]) rfl rfl ?_
  refine E_iload_n rfl rfl ?_
  refine E_aload_n rfl rfl ?_
  refine E_getfield (v := .ref 1) rfl rfl rfl (by decide) rfl ?_
  refine E_getfield (v := .int 0) rfl rfl rfl (by decide) rfl ?_
  refine E_ic (t := 65) (b := true) rfl rfl (by decide) ?_
  refine E_iload_n rfl rfl ?_
  exact E_iret rfl rfl
theorem c257_X6_run : Ev ab_Z0 7 185 [.ref 65, .int (-1)] w0 (some (.int 0), (w0.set 88 (.inl [0, 0, 0, 0, 0, 0, 0, 0, 0, 0, 0, 0, 0, 0, 0, 0, 0, 0, 0, 0, 0, 0, 0, 0, 0, 0, 0, 0, 0, 0, 0, 0, 0, 0, 0, 0, 0, 0, 0, 0, 0, 0, 0, 0, 0, 0, 0, 0, 0, 0, 0, 0, 0, 0, 0, 0, 0, 0, 0, 0, 5, 6, 7, 8, 9, 10, 11, 12, 0, 0, 0, 0, 0, 1, 0]))) := Ev.by (f := 2595) (by decide +kernel)
theorem f_run_1 (a1 : Int32) (ha1h : a1.toInt ≤ -2) : p1_P 5 98 7 185 [.ref 0, .int a1] [.ref 65, .int a1] :=
  ⟨(-5), (w0.set 48 (.inl [0, 0, 0, 0, 0, 1, 0, 0])), ((w0.set 48 (.inl [0, 0, 0, 0, 0, 1, 0, 0])).set 66 (.inl [0, 0, 0, 0, 0, 1, 0, 0])), by
    refine Ef.in (md := mX5_run) (L := [some (.ref 0), some (.int a1), none, none]) rfl (Nat.le_of_ble_eq_true rfl) rfl ?_
    refine E_iload_n rfl rfl ?_
    refine E_iconst (x := (-1)) rfl (by decide) ?_
    refine E_ic (t := 16) (b := true) rfl rfl ((cn_lt (rfl : (a1).toInt = (a1).toInt) (by decide : ((-1) : Int32).toInt = (-1))).trans (decide_eq_true (by omega))) ?_
    refine E_aload_n rfl rfl ?_
    refine E_iconst (x := 5) rfl (by decide) ?_
    refine E_callV (v := some (.int (-5))) (As := [.ref 0, .int 5]) (r0 := []) (cs2 := (w0.set 48 (.inl [0, 0, 0, 0, 0, 1, 0, 0]))) rfl rfl rfl (Nat.le_of_ble_eq_true rfl) rfl rfl c200_X5_refuse (by decide) (by simp only [List.length_set]) ?_
    exact E_iret rfl rfl, by
    refine Ef.in (md := mX6_run) (L := [some (.ref 65), some (.int a1)]) rfl (Nat.le_of_ble_eq_true rfl) rfl ?_
    refine E_aload_n rfl rfl ?_
    refine E_iload_n rfl rfl ?_
    refine E_iconst (x := (-1)) rfl (by decide) ?_
    refine E_aload_n rfl rfl ?_
    refine E_getfield (v := .int 0) rfl rfl rfl (by decide) rfl ?_
    refine E_iconst (x := 1) rfl (by decide) ?_
    refine E_isub (z := (-1)) rfl (by decide) ?_
    have e8 : Ev ab_Z0 1 134 [.ref 65, .int a1, .int (-1), .int (-1)] (w0.set 48 (.inl [0, 0, 0, 0, 0, 1, 0, 0])) (some (.int 0), (w0.set 48 (.inl [0, 0, 0, 0, 0, 1, 0, 0]))) := by
      refine Ef.in (md := mX6_isFrom) (L := [some (.ref 65), some (.int a1), some (.int (-1)), some (.int (-1))]) rfl (Nat.le_of_ble_eq_true rfl) rfl ?_
      refine E_iload_n rfl rfl ?_
      refine E_iload_n rfl rfl ?_
      refine E_ic (t := 14) (b := true) rfl rfl ((cn_lt (rfl : (a1).toInt = (a1).toInt) (by decide : ((-1) : Int32).toInt = (-1))).trans (decide_eq_true (by omega))) ?_
      refine E_iconst (x := 0) rfl (by decide) ?_
      exact E_iret rfl rfl
    refine E_callV (v := some (.int 0)) (As := [.ref 65, .int a1, .int (-1), .int (-1)]) (r0 := []) (cs2 := (w0.set 48 (.inl [0, 0, 0, 0, 0, 1, 0, 0]))) rfl rfl rfl (Nat.le_of_ble_eq_true rfl) rfl rfl e8 (by decide) rfl ?_
    refine E_if (t := 22) (b := false) rfl rfl (by decide) ?_
    refine E_aload_n rfl rfl ?_
    refine E_bipush (x := (-5)) rfl (by decide) ?_
    refine E_callV (v := some (.int (-5))) (As := [.ref 65, .int (-5)]) (r0 := []) (cs2 := ((w0.set 48 (.inl [0, 0, 0, 0, 0, 1, 0, 0])).set 66 (.inl [0, 0, 0, 0, 0, 1, 0, 0]))) rfl rfl rfl (Nat.le_of_ble_eq_true rfl) rfl rfl c202_X6_no (by decide) (by simp only [List.length_set]) ?_
    exact E_iret rfl rfl, (by simp only [List.length_set]; rfl), (by simp only [List.length_set]; rfl), ((ab_szs rfl).trans ((ab_szs rfl).trans rfl)), fun _ => rfl⟩
theorem f_run_2 : p1_P 5 98 7 185 [.ref 0, .int (-1)] [.ref 65, .int (-1)] :=
  ⟨0, w0, (w0.set 88 (.inl [0, 0, 0, 0, 0, 0, 0, 0, 0, 0, 0, 0, 0, 0, 0, 0, 0, 0, 0, 0, 0, 0, 0, 0, 0, 0, 0, 0, 0, 0, 0, 0, 0, 0, 0, 0, 0, 0, 0, 0, 0, 0, 0, 0, 0, 0, 0, 0, 0, 0, 0, 0, 0, 0, 0, 0, 0, 0, 0, 0, 5, 6, 7, 8, 9, 10, 11, 12, 0, 0, 0, 0, 0, 1, 0])), by
    exact c256_X5_run, by
    exact c257_X6_run, rfl, (by simp only [List.length_set]; rfl), ((ab_szs rfl).trans rfl), fun _ => rfl⟩
theorem f_run_3 (a1 : Int32) (ha1l : (0 : Int) ≤ a1.toInt) : p1_P 5 98 7 185 [.ref 0, .int a1] [.ref 65, .int a1] :=
  ⟨(-5), (w0.set 48 (.inl [0, 0, 0, 0, 0, 1, 0, 0])), ((w0.set 48 (.inl [0, 0, 0, 0, 0, 1, 0, 0])).set 66 (.inl [0, 0, 0, 0, 0, 1, 0, 0])), by
    refine Ef.in (md := mX5_run) (L := [some (.ref 0), some (.int a1), none, none]) rfl (Nat.le_of_ble_eq_true rfl) rfl ?_
    refine E_iload_n rfl rfl ?_
    refine E_iconst (x := (-1)) rfl (by decide) ?_
    refine E_ic (t := 16) (b := false) rfl rfl ((cn_lt (rfl : (a1).toInt = (a1).toInt) (by decide : ((-1) : Int32).toInt = (-1))).trans (decide_eq_false (by omega))) ?_
    refine E_iload_n rfl rfl ?_
    refine E_aload_n rfl rfl ?_
    refine E_getfield (v := .ref 1) rfl rfl rfl (by decide) rfl ?_
    refine E_getfield (v := .int 0) rfl rfl rfl (by decide) rfl ?_
    refine E_ic (t := 22) (b := false) rfl rfl ((cn_lt (rfl : (a1).toInt = (a1).toInt) (by decide : (0 : Int32).toInt = 0)).trans (decide_eq_false (by omega))) ?_
    refine E_aload_n rfl rfl ?_
    refine E_iconst (x := 5) rfl (by decide) ?_
    refine E_callV (v := some (.int (-5))) (As := [.ref 0, .int 5]) (r0 := []) (cs2 := (w0.set 48 (.inl [0, 0, 0, 0, 0, 1, 0, 0]))) rfl rfl rfl (Nat.le_of_ble_eq_true rfl) rfl rfl c200_X5_refuse (by decide) (by simp only [List.length_set]) ?_
    exact E_iret rfl rfl, by
    refine Ef.in (md := mX6_run) (L := [some (.ref 65), some (.int a1)]) rfl (Nat.le_of_ble_eq_true rfl) rfl ?_
    refine E_aload_n rfl rfl ?_
    refine E_iload_n rfl rfl ?_
    refine E_iconst (x := (-1)) rfl (by decide) ?_
    refine E_aload_n rfl rfl ?_
    refine E_getfield (v := .int 0) rfl rfl rfl (by decide) rfl ?_
    refine E_iconst (x := 1) rfl (by decide) ?_
    refine E_isub (z := (-1)) rfl (by decide) ?_
    have e8 : Ev ab_Z0 1 134 [.ref 65, .int a1, .int (-1), .int (-1)] (w0.set 48 (.inl [0, 0, 0, 0, 0, 1, 0, 0])) (some (.int 0), (w0.set 48 (.inl [0, 0, 0, 0, 0, 1, 0, 0]))) := by
      refine Ef.in (md := mX6_isFrom) (L := [some (.ref 65), some (.int a1), some (.int (-1)), some (.int (-1))]) rfl (Nat.le_of_ble_eq_true rfl) rfl ?_
      refine E_iload_n rfl rfl ?_
      refine E_iload_n rfl rfl ?_
      refine E_ic (t := 14) (b := false) rfl rfl ((cn_lt (rfl : (a1).toInt = (a1).toInt) (by decide : ((-1) : Int32).toInt = (-1))).trans (decide_eq_false (by omega))) ?_
      refine E_iload_n rfl rfl ?_
      refine E_iload_n rfl rfl ?_
      refine E_ic (t := 14) (b := true) rfl rfl ((cn_gt (rfl : (a1).toInt = (a1).toInt) (by decide : ((-1) : Int32).toInt = (-1))).trans (decide_eq_true (by omega))) ?_
      refine E_iconst (x := 0) rfl (by decide) ?_
      exact E_iret rfl rfl
    refine E_callV (v := some (.int 0)) (As := [.ref 65, .int a1, .int (-1), .int (-1)]) (r0 := []) (cs2 := (w0.set 48 (.inl [0, 0, 0, 0, 0, 1, 0, 0]))) rfl rfl rfl (Nat.le_of_ble_eq_true rfl) rfl rfl e8 (by decide) rfl ?_
    refine E_if (t := 22) (b := false) rfl rfl (by decide) ?_
    refine E_aload_n rfl rfl ?_
    refine E_bipush (x := (-5)) rfl (by decide) ?_
    refine E_callV (v := some (.int (-5))) (As := [.ref 65, .int (-5)]) (r0 := []) (cs2 := ((w0.set 48 (.inl [0, 0, 0, 0, 0, 1, 0, 0])).set 66 (.inl [0, 0, 0, 0, 0, 1, 0, 0]))) rfl rfl rfl (Nat.le_of_ble_eq_true rfl) rfl rfl c202_X6_no (by decide) (by simp only [List.length_set]) ?_
    exact E_iret rfl rfl, (by simp only [List.length_set]; rfl), (by simp only [List.length_set]; rfl), ((ab_szs rfl).trans ((ab_szs rfl).trans rfl)), fun _ => rfl⟩
theorem f_run (a1 : Int32) : p1_P 5 98 7 185 [.ref 0, .int a1] [.ref 65, .int a1] := by
  rcases ab_ltge a1.toInt (-1) with h | h
  · exact f_run_1 a1 (by omega)
  rcases ab_ltge a1.toInt (0) with h | h
  · obtain rfl : a1 = (-1) := Int32.toInt_inj.mp (by rw [show (((-1) : Int32).toInt = -1) by decide]; omega)
    exact f_run_2
  exact f_run_3 a1 (by omega)
