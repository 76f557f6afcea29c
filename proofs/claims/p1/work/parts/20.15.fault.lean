theorem c227_X5_fault : Ev ab_Z0 1 91 [.ref 0] w0 (some (.int (-1)), w0) := by
  refine Ef.in (md := mX5_fault) (L := [some (.ref 0)]) rfl (Nat.le_of_ble_eq_true rfl) rfl ?_
  refine E_aload_n rfl rfl ?_
  refine E_getfield (v := .int (-1)) rfl rfl rfl (by decide) rfl ?_
  exact E_iret rfl rfl
theorem c228_X6_fault : Ev ab_Z0 1 166 [.ref 65] w0 (some (.int (-1)), w0) := by
  refine Ef.in (md := mX6_fault) (L := [some (.ref 65)]) rfl (Nat.le_of_ble_eq_true rfl) rfl ?_
  refine E_aload_n rfl rfl ?_
  refine E_getfield (v := .int (-1)) rfl rfl rfl (by decide) rfl ?_
  exact E_iret rfl rfl
theorem f_fault_1 : p1_P 1 91 1 166 [.ref 0] [.ref 65] :=
  ⟨(-1), w0, w0, by
    exact c227_X5_fault, by
    exact c228_X6_fault, rfl, rfl, rfl, fun _ => rfl⟩
theorem f_fault : p1_P 1 91 1 166 [.ref 0] [.ref 65] := by
  exact f_fault_1
