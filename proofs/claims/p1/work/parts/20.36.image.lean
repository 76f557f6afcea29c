theorem c275_X4_take : Ev ab_Z0 1 55 [.ref 21, .ref 1] w0 (none, w0) := Ev.by (f := 107) (by decide +kernel)
theorem c274_X5_image : Ev ab_Z0 2 112 [.ref 0] w0 (some (.int 0), (w0.set 0 (.inr (.inr (.inr (5, [.ref 1, .ref 11, .ref 21, .ref 31, .ref 32, .ref 34, .ref 46, .ref 48, .int 1, .int (-1)])))))) := by
  refine Ef.in (md := mX5_image) (L := [some (.ref 0)]) rfl (Nat.le_of_ble_eq_true rfl) rfl ?_
  refine E_aload_n rfl rfl ?_
  refine E_getfield (v := .ref 21) rfl rfl rfl (by decide) rfl ?_
  refine E_aload_n rfl rfl ?_
  refine E_getfield (v := .ref 1) rfl rfl rfl (by decide) rfl ?_
  refine E_callV (v := none) (As := [.ref 21, .ref 1]) (r0 := []) (cs2 := w0) rfl rfl rfl (Nat.le_of_ble_eq_true rfl) rfl rfl c275_X4_take (by decide) rfl ?_
  refine E_aload_n rfl rfl ?_
  refine E_iconst (x := 1) rfl (by decide) ?_
  refine E_putfield (cs2 := (w0.set 0 (.inr (.inr (.inr (5, [.ref 1, .ref 11, .ref 21, .ref 31, .ref 32, .ref 34, .ref 46, .ref 48, .int 1, .int (-1)])))))) rfl rfl rfl (by decide) (Nat.le_of_ble_eq_true rfl) rfl rfl rfl rfl ?_
  refine E_aload_n rfl rfl ?_
  refine E_getfield (v := .ref 21) rfl rfl rfl (by decide) rfl ?_
  refine E_getfield (v := .int 0) rfl rfl rfl (by decide) rfl ?_
  exact E_iret rfl rfl
theorem c276_X6_image : Ev ab_Z0 3 210 [.ref 65] (w0.set 0 (.inr (.inr (.inr (5, [.ref 1, .ref 11, .ref 21, .ref 31, .ref 32, .ref 34, .ref 46, .ref 48, .int 1, .int (-1)]))))) (some (.int 0), (((w0.set 0 (.inr (.inr (.inr (5, [.ref 1, .ref 11, .ref 21, .ref 31, .ref 32, .ref 34, .ref 46, .ref 48, .int 1, .int (-1)]))))).set 65 (.inr (.inr (.inr (6, [.int 0, .int 0, .int 0, .int 0, .int 0, .int 1, .int (-1), .ref 66, .ref 67, .ref 68, .ref 69, .ref 70, .ref 71, .ref 72, .ref 73, .ref 74, .ref 75, .ref 76, .ref 77, .ref 78, .ref 79, .ref 80, .ref 81, .ref 82, .ref 83, .ref 84, .ref 85, .int 0, .int 0, .int 0, .int 0, .int 0, .ref 86, .ref 87, .ref 88, .ref 89, .int 0, .int 0, .ref 90, .ref 91, .ref 92, .ref 93, .int 0, .int 0, .int 0, .int 0, .ref 94, .int 0, .int 1]))))).set 87 (.inl [0, 0, 0, 0, 0, 0, 0, 0, 0, 0, 0, 0, 0, 0, 0, 0, 0, 0, 0, 0, 0, 0, 0, 0, 0, 0, 0, 0, 0, 0, 0, 0, 0, 0, 0, 0, 0, 0, 0, 0, 0, 0, 0, 0, 0, 0, 0, 0, 0, 0, 0, 0, 0, 0, 0, 0, 0, 0, 0, 0, 5, 6, 7, 8, 9, 10, 11, 12, 0, 0, 0, 0, 0, 1, 0]))) := Ev.by (f := 1246) (by decide +kernel)
theorem f_image_1 : p1_P 2 112 3 210 [.ref 0] [.ref 65] :=
  ⟨0, (w0.set 0 (.inr (.inr (.inr (5, [.ref 1, .ref 11, .ref 21, .ref 31, .ref 32, .ref 34, .ref 46, .ref 48, .int 1, .int (-1)]))))), (((w0.set 0 (.inr (.inr (.inr (5, [.ref 1, .ref 11, .ref 21, .ref 31, .ref 32, .ref 34, .ref 46, .ref 48, .int 1, .int (-1)]))))).set 65 (.inr (.inr (.inr (6, [.int 0, .int 0, .int 0, .int 0, .int 0, .int 1, .int (-1), .ref 66, .ref 67, .ref 68, .ref 69, .ref 70, .ref 71, .ref 72, .ref 73, .ref 74, .ref 75, .ref 76, .ref 77, .ref 78, .ref 79, .ref 80, .ref 81, .ref 82, .ref 83, .ref 84, .ref 85, .int 0, .int 0, .int 0, .int 0, .int 0, .ref 86, .ref 87, .ref 88, .ref 89, .int 0, .int 0, .ref 90, .ref 91, .ref 92, .ref 93, .int 0, .int 0, .int 0, .int 0, .ref 94, .int 0, .int 1]))))).set 87 (.inl [0, 0, 0, 0, 0, 0, 0, 0, 0, 0, 0, 0, 0, 0, 0, 0, 0, 0, 0, 0, 0, 0, 0, 0, 0, 0, 0, 0, 0, 0, 0, 0, 0, 0, 0, 0, 0, 0, 0, 0, 0, 0, 0, 0, 0, 0, 0, 0, 0, 0, 0, 0, 0, 0, 0, 0, 0, 0, 0, 0, 5, 6, 7, 8, 9, 10, 11, 12, 0, 0, 0, 0, 0, 1, 0])), by
    exact c274_X5_image, by
    exact c276_X6_image, (by simp only [List.length_set]; rfl), (by simp only [List.length_set]; rfl), ((ab_szs rfl).trans ((ab_szs rfl).trans ((ab_szs rfl).trans rfl))), fun _ => rfl⟩
theorem f_image : p1_P 2 112 3 210 [.ref 0] [.ref 65] := by
  exact f_image_1
