theorem c252_X5_amounts : Ev ab_Z0 4 97 [.ref 0, .int 0] w0 (some (.int 0), (w0.set 33 (.inl [0, (-1), (-1), (-1), (-1), (-1), (-1), (-1), (-1), (-1), (-1), (-1), (-1), (-1), (-1), (-1), (-1), (-1), (-1), (-1), (-1), (-1), (-1), (-1), (-1), (-1), (-1), (-1), (-1), (-1), (-1), (-1), (-1), (-1), (-1), (-1), (-1), (-1), (-1), (-1), (-1), (-1), (-1), (-1), (-1), (-1), (-1), (-1), (-1), (-1), (-1), (-1), (-1), (-1), (-1), (-1), (-1), (-1), (-1), (-1), (-1), (-1), (-1), (-1), (-1), (-1), (-1), (-1), (-1), (-1), (-1), (-1), (-1), (-1), (-1), (-1), (-1), (-1), (-1), (-1), (-1), (-1), (-1), (-1), (-1), (-1), (-1), (-1), (-1), (-1), (-1), (-1), (-1), (-1), (-1), (-1), (-1), (-1), (-1), (-1)]))) := Ev.by (f := 2557) (by decide +kernel)
theorem c253_X6_amounts : Ev ab_Z0 4 182 [.ref 65, .int 0] (w0.set 33 (.inl [0, (-1), (-1), (-1), (-1), (-1), (-1), (-1), (-1), (-1), (-1), (-1), (-1), (-1), (-1), (-1), (-1), (-1), (-1), (-1), (-1), (-1), (-1), (-1), (-1), (-1), (-1), (-1), (-1), (-1), (-1), (-1), (-1), (-1), (-1), (-1), (-1), (-1), (-1), (-1), (-1), (-1), (-1), (-1), (-1), (-1), (-1), (-1), (-1), (-1), (-1), (-1), (-1), (-1), (-1), (-1), (-1), (-1), (-1), (-1), (-1), (-1), (-1), (-1), (-1), (-1), (-1), (-1), (-1), (-1), (-1), (-1), (-1), (-1), (-1), (-1), (-1), (-1), (-1), (-1), (-1), (-1), (-1), (-1), (-1), (-1), (-1), (-1), (-1), (-1), (-1), (-1), (-1), (-1), (-1), (-1), (-1), (-1), (-1), (-1)])) (some (.int 0), ((w0.set 33 (.inl [0, (-1), (-1), (-1), (-1), (-1), (-1), (-1), (-1), (-1), (-1), (-1), (-1), (-1), (-1), (-1), (-1), (-1), (-1), (-1), (-1), (-1), (-1), (-1), (-1), (-1), (-1), (-1), (-1), (-1), (-1), (-1), (-1), (-1), (-1), (-1), (-1), (-1), (-1), (-1), (-1), (-1), (-1), (-1), (-1), (-1), (-1), (-1), (-1), (-1), (-1), (-1), (-1), (-1), (-1), (-1), (-1), (-1), (-1), (-1), (-1), (-1), (-1), (-1), (-1), (-1), (-1), (-1), (-1), (-1), (-1), (-1), (-1), (-1), (-1), (-1), (-1), (-1), (-1), (-1), (-1), (-1), (-1), (-1), (-1), (-1), (-1), (-1), (-1), (-1), (-1), (-1), (-1), (-1), (-1), (-1), (-1), (-1), (-1), (-1)])).set 89 (.inl [0, (-1), (-1), (-1), (-1), (-1), (-1), (-1), (-1), (-1), (-1), (-1), (-1), (-1), (-1), (-1), (-1), (-1), (-1), (-1), (-1), (-1), (-1), (-1), (-1), (-1), (-1), (-1), (-1), (-1), (-1), (-1), (-1), (-1), (-1), (-1), (-1), (-1), (-1), (-1), (-1), (-1), (-1), (-1), (-1), (-1), (-1), (-1), (-1), (-1), (-1), (-1), (-1), (-1), (-1), (-1), (-1), (-1), (-1), (-1), (-1), (-1), (-1), (-1), (-1), (-1), (-1), (-1), (-1), (-1), (-1), (-1), (-1), (-1), (-1), (-1), (-1), (-1), (-1), (-1), (-1), (-1), (-1), (-1), (-1), (-1), (-1), (-1), (-1), (-1), (-1), (-1), (-1), (-1), (-1), (-1), (-1), (-1), (-1), (-1)]))) := Ev.by (f := 2395) (by decide +kernel)
theorem c254_X5_amounts : Ev ab_Z0 4 97 [.ref 0, .int 1] w0 (some (.int 0), w0) := Ev.by (f := 6063) (by decide +kernel)
theorem c255_X6_amounts : Ev ab_Z0 4 182 [.ref 65, .int 1] w0 (some (.int 0), (w0.set 89 (.inl [0, (-1), (-1), (-1), (-1), (-1), (-1), (-1), (-1), (-1), (-1), (-1), (-1), (-1), (-1), (-1), (-1), (-1), (-1), (-1), (-1), (-1), (-1), (-1), (-1), (-1), (-1), (-1), (-1), (-1), (-1), (-1), (-1), (-1), (-1), (-1), (-1), (-1), (-1), (-1), (-1), (-1), (-1), (-1), (-1), (-1), (-1), (-1), (-1), (-1), (-1), (-1), (-1), (-1), (-1), (-1), (-1), (-1), (-1), (-1), (-1), (-1), (-1), (-1), (-1), (-1), (-1), (-1), (-1), (-1), (-1), (-1), (-1), (-1), (-1), (-1), (-1), (-1), (-1), (-1), (-1), (-1), (-1), (-1), (-1), (-1), (-1), (-1), (-1), (-1), (-1), (-1), (-1), (-1), (-1), (-1), (-1), (-1), (-1), (-1)]))) := Ev.by (f := 4277) (by decide +kernel)
theorem f_amounts_1 (a1 : Int32) (ha1h : a1.toInt ≤ -1) : p1_P 4 97 4 182 [.ref 0, .int a1] [.ref 65, .int a1] :=
  ⟨(-5), (w0.set 48 (.inl [0, 0, 0, 0, 0, 1, 0, 0])), ((w0.set 48 (.inl [0, 0, 0, 0, 0, 1, 0, 0])).set 66 (.inl [0, 0, 0, 0, 0, 1, 0, 0])), by
    refine Ef.in (md := mX5_amounts) (L := [some (.ref 0), some (.int a1), none, none]) rfl (Nat.le_of_ble_eq_true rfl) rfl ?_
    refine E_iload_n rfl rfl ?_
    refine E_if (t := 23) (b := true) rfl rfl ((cn_ne (rfl : (a1).toInt = (a1).toInt) (by decide : (0 : Int32).toInt = 0)).trans (decide_eq_true (by omega))) ?_
    refine E_iload_n rfl rfl ?_
    refine E_iconst (x := 1) rfl (by decide) ?_
    refine E_ic (t := 34) (b := false) rfl rfl ((cn_eq (rfl : (a1).toInt = (a1).toInt) (by decide : (1 : Int32).toInt = 1)).trans (decide_eq_false (by omega))) ?_
    refine E_aload_n rfl rfl ?_
    refine E_iconst (x := 5) rfl (by decide) ?_
    refine E_callV (v := some (.int (-5))) (As := [.ref 0, .int 5]) (r0 := []) (cs2 := (w0.set 48 (.inl [0, 0, 0, 0, 0, 1, 0, 0]))) rfl rfl rfl (Nat.le_of_ble_eq_true rfl) rfl rfl c200_X5_refuse (by decide) (by simp only [List.length_set]) ?_
    exact E_iret rfl rfl, by
    refine Ef.in (md := mX6_amounts) (L := [some (.ref 65), some (.int a1)]) rfl (Nat.le_of_ble_eq_true rfl) rfl ?_
    refine E_iload_n rfl rfl ?_
    refine E_if (t := 9) (b := true) rfl rfl ((cn_lt (rfl : (a1).toInt = (a1).toInt) (by decide : (0 : Int32).toInt = 0)).trans (decide_eq_true (by omega))) ?_
    refine E_aload_n rfl rfl ?_
    refine E_bipush (x := (-5)) rfl (by decide) ?_
    refine E_callV (v := some (.int (-5))) (As := [.ref 65, .int (-5)]) (r0 := []) (cs2 := ((w0.set 48 (.inl [0, 0, 0, 0, 0, 1, 0, 0])).set 66 (.inl [0, 0, 0, 0, 0, 1, 0, 0]))) rfl rfl rfl (Nat.le_of_ble_eq_true rfl) rfl rfl c202_X6_no (by decide) (by simp only [List.length_set]) ?_
    exact E_iret rfl rfl, (by simp only [List.length_set]; rfl), (by simp only [List.length_set]; rfl), ((ab_szs rfl).trans ((ab_szs rfl).trans rfl)), fun _ => rfl⟩
theorem f_amounts_2 : p1_P 4 97 4 182 [.ref 0, .int 0] [.ref 65, .int 0] :=
  ⟨0, (w0.set 33 (.inl [0, (-1), (-1), (-1), (-1), (-1), (-1), (-1), (-1), (-1), (-1), (-1), (-1), (-1), (-1), (-1), (-1), (-1), (-1), (-1), (-1), (-1), (-1), (-1), (-1), (-1), (-1), (-1), (-1), (-1), (-1), (-1), (-1), (-1), (-1), (-1), (-1), (-1), (-1), (-1), (-1), (-1), (-1), (-1), (-1), (-1), (-1), (-1), (-1), (-1), (-1), (-1), (-1), (-1), (-1), (-1), (-1), (-1), (-1), (-1), (-1), (-1), (-1), (-1), (-1), (-1), (-1), (-1), (-1), (-1), (-1), (-1), (-1), (-1), (-1), (-1), (-1), (-1), (-1), (-1), (-1), (-1), (-1), (-1), (-1), (-1), (-1), (-1), (-1), (-1), (-1), (-1), (-1), (-1), (-1), (-1), (-1), (-1), (-1), (-1)])), ((w0.set 33 (.inl [0, (-1), (-1), (-1), (-1), (-1), (-1), (-1), (-1), (-1), (-1), (-1), (-1), (-1), (-1), (-1), (-1), (-1), (-1), (-1), (-1), (-1), (-1), (-1), (-1), (-1), (-1), (-1), (-1), (-1), (-1), (-1), (-1), (-1), (-1), (-1), (-1), (-1), (-1), (-1), (-1), (-1), (-1), (-1), (-1), (-1), (-1), (-1), (-1), (-1), (-1), (-1), (-1), (-1), (-1), (-1), (-1), (-1), (-1), (-1), (-1), (-1), (-1), (-1), (-1), (-1), (-1), (-1), (-1), (-1), (-1), (-1), (-1), (-1), (-1), (-1), (-1), (-1), (-1), (-1), (-1), (-1), (-1), (-1), (-1), (-1), (-1), (-1), (-1), (-1), (-1), (-1), (-1), (-1), (-1), (-1), (-1), (-1), (-1), (-1)])).set 89 (.inl [0, (-1), (-1), (-1), (-1), (-1), (-1), (-1), (-1), (-1), (-1), (-1), (-1), (-1), (-1), (-1), (-1), (-1), (-1), (-1), (-1), (-1), (-1), (-1), (-1), (-1), (-1), (-1), (-1), (-1), (-1), (-1), (-1), (-1), (-1), (-1), (-1), (-1), (-1), (-1), (-1), (-1), (-1), (-1), (-1), (-1), (-1), (-1), (-1), (-1), (-1), (-1), (-1), (-1), (-1), (-1), (-1), (-1), (-1), (-1), (-1), (-1), (-1), (-1), (-1), (-1), (-1), (-1), (-1), (-1), (-1), (-1), (-1), (-1), (-1), (-1), (-1), (-1), (-1), (-1), (-1), (-1), (-1), (-1), (-1), (-1), (-1), (-1), (-1), (-1), (-1), (-1), (-1), (-1), (-1), (-1), (-1), (-1), (-1), (-1)])), by
    exact c252_X5_amounts, by
    exact c253_X6_amounts, (by simp only [List.length_set]; rfl), (by simp only [List.length_set]; rfl), ((ab_szs rfl).trans ((ab_szs rfl).trans rfl)), fun _ => rfl⟩
theorem f_amounts_3 : p1_P 4 97 4 182 [.ref 0, .int 1] [.ref 65, .int 1] :=
  ⟨0, w0, (w0.set 89 (.inl [0, (-1), (-1), (-1), (-1), (-1), (-1), (-1), (-1), (-1), (-1), (-1), (-1), (-1), (-1), (-1), (-1), (-1), (-1), (-1), (-1), (-1), (-1), (-1), (-1), (-1), (-1), (-1), (-1), (-1), (-1), (-1), (-1), (-1), (-1), (-1), (-1), (-1), (-1), (-1), (-1), (-1), (-1), (-1), (-1), (-1), (-1), (-1), (-1), (-1), (-1), (-1), (-1), (-1), (-1), (-1), (-1), (-1), (-1), (-1), (-1), (-1), (-1), (-1), (-1), (-1), (-1), (-1), (-1), (-1), (-1), (-1), (-1), (-1), (-1), (-1), (-1), (-1), (-1), (-1), (-1), (-1), (-1), (-1), (-1), (-1), (-1), (-1), (-1), (-1), (-1), (-1), (-1), (-1), (-1), (-1), (-1), (-1), (-1), (-1)])), by
    exact c254_X5_amounts, by
    exact c255_X6_amounts, rfl, (by simp only [List.length_set]; rfl), ((ab_szs rfl).trans rfl), fun _ => rfl⟩
theorem f_amounts_4 (a1 : Int32) (ha1l : (2 : Int) ≤ a1.toInt) : p1_P 4 97 4 182 [.ref 0, .int a1] [.ref 65, .int a1] :=
  ⟨(-5), (w0.set 48 (.inl [0, 0, 0, 0, 0, 1, 0, 0])), ((w0.set 48 (.inl [0, 0, 0, 0, 0, 1, 0, 0])).set 66 (.inl [0, 0, 0, 0, 0, 1, 0, 0])), by
    refine Ef.in (md := mX5_amounts) (L := [some (.ref 0), some (.int a1), none, none]) rfl (Nat.le_of_ble_eq_true rfl) rfl ?_
    refine E_iload_n rfl rfl ?_
    refine E_if (t := 23) (b := true) rfl rfl ((cn_ne (rfl : (a1).toInt = (a1).toInt) (by decide : (0 : Int32).toInt = 0)).trans (decide_eq_true (by omega))) ?_
    refine E_iload_n rfl rfl ?_
    refine E_iconst (x := 1) rfl (by decide) ?_
    refine E_ic (t := 34) (b := false) rfl rfl ((cn_eq (rfl : (a1).toInt = (a1).toInt) (by decide : (1 : Int32).toInt = 1)).trans (decide_eq_false (by omega))) ?_
    refine E_aload_n rfl rfl ?_
    refine E_iconst (x := 5) rfl (by decide) ?_
    refine E_callV (v := some (.int (-5))) (As := [.ref 0, .int 5]) (r0 := []) (cs2 := (w0.set 48 (.inl [0, 0, 0, 0, 0, 1, 0, 0]))) rfl rfl rfl (Nat.le_of_ble_eq_true rfl) rfl rfl c200_X5_refuse (by decide) (by simp only [List.length_set]) ?_
    exact E_iret rfl rfl, by
    refine Ef.in (md := mX6_amounts) (L := [some (.ref 65), some (.int a1)]) rfl (Nat.le_of_ble_eq_true rfl) rfl ?_
    refine E_iload_n rfl rfl ?_
    refine E_if (t := 9) (b := false) rfl rfl ((cn_lt (rfl : (a1).toInt = (a1).toInt) (by decide : (0 : Int32).toInt = 0)).trans (decide_eq_false (by omega))) ?_
    refine E_iload_n rfl rfl ?_
    refine E_iconst (x := 1) rfl (by decide) ?_
    refine E_ic (t := 16) (b := false) rfl rfl ((cn_le (rfl : (a1).toInt = (a1).toInt) (by decide : (1 : Int32).toInt = 1)).trans (decide_eq_false (by omega))) ?_
    refine E_aload_n rfl rfl ?_
    refine E_bipush (x := (-5)) rfl (by decide) ?_
    refine E_callV (v := some (.int (-5))) (As := [.ref 65, .int (-5)]) (r0 := []) (cs2 := ((w0.set 48 (.inl [0, 0, 0, 0, 0, 1, 0, 0])).set 66 (.inl [0, 0, 0, 0, 0, 1, 0, 0]))) rfl rfl rfl (Nat.le_of_ble_eq_true rfl) rfl rfl c202_X6_no (by decide) (by simp only [List.length_set]) ?_
    exact E_iret rfl rfl, (by simp only [List.length_set]; rfl), (by simp only [List.length_set]; rfl), ((ab_szs rfl).trans ((ab_szs rfl).trans rfl)), fun _ => rfl⟩
theorem f_amounts (a1 : Int32) : p1_P 4 97 4 182 [.ref 0, .int a1] [.ref 65, .int a1] := by
  rcases ab_ltge a1.toInt (0) with h | h
  · exact f_amounts_1 a1 (by omega)
  rcases ab_ltge a1.toInt (1) with h | h
  · obtain rfl : a1 = 0 := Int32.toInt_inj.mp (by rw [show ((0 : Int32).toInt = 0) by decide]; omega)
    exact f_amounts_2
  rcases ab_ltge a1.toInt (2) with h | h
  · obtain rfl : a1 = 1 := Int32.toInt_inj.mp (by rw [show ((1 : Int32).toInt = 1) by decide]; omega)
    exact f_amounts_3
  exact f_amounts_4 a1 (by omega)
