theorem f_days_1 (a1 : Int32) : p1_P 6 108 7 202 [.ref 0, .int a1] [.ref 65, .int a1] :=
  ⟨(-5), (w0.set 48 (.inl [0, 0, 0, 0, 0, 1, 0, 0])), ((w0.set 48 (.inl [0, 0, 0, 0, 0, 1, 0, 0])).set 66 (.inl [0, 0, 0, 0, 0, 1, 0, 0])), by
    refine Ef.in (md := mX5_days) (L := [some (.ref 0), some (.int a1), none]) rfl (Nat.le_of_ble_eq_true rfl) rfl ?_
    refine E_aload_n rfl rfl ?_
    refine E_getfield (v := .ref 1) rfl rfl rfl (by decide) rfl ?_
    refine E_getfield (v := .int 0) rfl rfl rfl (by decide) rfl ?_
    refine E_if (t := 16) (b := false) rfl rfl (by decide) ?_
    refine E_aload_n rfl rfl ?_
    refine E_iconst (x := 5) rfl (by decide) ?_
    refine E_callV (v := some (.int (-5))) (As := [.ref 0, .int 5]) (r0 := []) (cs2 := (w0.set 48 (.inl [0, 0, 0, 0, 0, 1, 0, 0]))) rfl rfl rfl (Nat.le_of_ble_eq_true rfl) rfl rfl c200_X5_refuse (by decide) (by simp only [List.length_set]) ?_
    exact E_iret rfl rfl, by
    refine Ef.in (md := mX6_days) (L := [some (.ref 65), some (.int a1), none]) rfl (Nat.le_of_ble_eq_true rfl) rfl ?_
    refine E_aload_n rfl rfl ?_
    refine E_getfield (v := .int 0) rfl rfl rfl (by decide) rfl ?_
    refine E_if (t := 14) (b := false) rfl rfl (by decide) ?_
    refine E_aload_n rfl rfl ?_
    refine E_bipush (x := (-5)) rfl (by decide) ?_
    refine E_callV (v := some (.int (-5))) (As := [.ref 65, .int (-5)]) (r0 := []) (cs2 := ((w0.set 48 (.inl [0, 0, 0, 0, 0, 1, 0, 0])).set 66 (.inl [0, 0, 0, 0, 0, 1, 0, 0]))) rfl rfl rfl (Nat.le_of_ble_eq_true rfl) rfl rfl c202_X6_no (by decide) (by simp only [List.length_set]) ?_
    exact E_iret rfl rfl, (by simp only [List.length_set]; rfl), (by simp only [List.length_set]; rfl), ((ab_szs rfl).trans ((ab_szs rfl).trans rfl)), fun _ => rfl⟩
theorem f_days (a1 : Int32) : p1_P 6 108 7 202 [.ref 0, .int a1] [.ref 65, .int a1] := by
  exact f_days_1 a1
