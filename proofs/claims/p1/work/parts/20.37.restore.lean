theorem c277_X5_restore : Ev ab_Z0 3 113 [.ref 0] w0 (some (.int (-6)), (w0.set 48 (.inl [0, 0, 0, 0, 0, 0, 1, 0]))) := by
  refine Ef.in (md := mX5_restore) (L := [some (.ref 0), none, none]) rfl (Nat.le_of_ble_eq_true rfl) rfl ?_
  refine E_aload_n rfl rfl ?_
  refine E_getfield (v := .int 0) rfl rfl rfl (by decide) rfl ?_
  refine E_if (t := 14) (b := false) rfl rfl (by decide) ?_
  refine E_aload_n rfl rfl ?_
  refine E_bipush (x := 6) rfl (by decide) ?_
  refine E_callV (v := some (.int (-6))) (As := [.ref 0, .int 6]) (r0 := []) (cs2 := (w0.set 48 (.inl [0, 0, 0, 0, 0, 0, 1, 0]))) rfl rfl rfl (Nat.le_of_ble_eq_true rfl) rfl rfl c7_X5_refuse (by decide) (by simp only [List.length_set]) ?_
  exact E_iret rfl rfl
theorem c278_X6_restore : Ev ab_Z0 3 211 [.ref 65] (w0.set 48 (.inl [0, 0, 0, 0, 0, 0, 1, 0])) (some (.int (-6)), ((w0.set 48 (.inl [0, 0, 0, 0, 0, 0, 1, 0])).set 66 (.inl [0, 0, 0, 0, 0, 0, 1, 0]))) := by
  refine Ef.in (md := mX6_restore) (L := [some (.ref 65), none]) rfl (Nat.le_of_ble_eq_true rfl) rfl ?_
  refine E_aload_n rfl rfl ?_
  refine E_getfield (v := .int 0) rfl rfl rfl (by decide) rfl ?_
  refine E_if (t := 14) (b := false) rfl rfl (by decide) ?_
  refine E_aload_n rfl rfl ?_
  refine E_bipush (x := (-6)) rfl (by decide) ?_
  refine E_callV (v := some (.int (-6))) (As := [.ref 65, .int (-6)]) (r0 := []) (cs2 := ((w0.set 48 (.inl [0, 0, 0, 0, 0, 0, 1, 0])).set 66 (.inl [0, 0, 0, 0, 0, 0, 1, 0]))) rfl rfl rfl (Nat.le_of_ble_eq_true rfl) rfl rfl c9_X6_no (by decide) (by simp only [List.length_set]) ?_
  exact E_iret rfl rfl
theorem f_restore_1 : p1_P 3 113 3 211 [.ref 0] [.ref 65] :=
  ⟨(-6), (w0.set 48 (.inl [0, 0, 0, 0, 0, 0, 1, 0])), ((w0.set 48 (.inl [0, 0, 0, 0, 0, 0, 1, 0])).set 66 (.inl [0, 0, 0, 0, 0, 0, 1, 0])), by
    exact c277_X5_restore, by
    exact c278_X6_restore, (by simp only [List.length_set]; rfl), (by simp only [List.length_set]; rfl), ((ab_szs rfl).trans ((ab_szs rfl).trans rfl)), fun _ => rfl⟩
theorem f_restore : p1_P 3 113 3 211 [.ref 0] [.ref 65] := by
  exact f_restore_1
