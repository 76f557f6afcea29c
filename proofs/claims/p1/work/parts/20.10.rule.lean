theorem c194_X5_rule : Ev ab_Z0 3 86 [.ref 0, .int 0] w0 (some (.int 0), (w0.set 1 (.inr (.inr (.inr (4, [.ref 2, .ref 3, .ref 4, .ref 5, .ref 6, .ref 7, .ref 8, .ref 9, .ref 10, .int 0, .int 0, .int 0, .int 0, .int 0, .int 1])))))) := by
  refine Ef.in (md := mX5_rule) (L := [some (.ref 0), some (.int 0), none]) rfl (Nat.le_of_ble_eq_true rfl) rfl ?_
  refine E_iload_n rfl rfl ?_
  refine E_if (t := 16) (b := true) rfl rfl (by decide) ?_
  refine E_aload_n rfl rfl ?_
  refine E_getfield (v := .ref 1) rfl rfl rfl (by decide) rfl ?_
  refine E_getfield (v := .int 0) rfl rfl rfl (by decide) rfl ?_
  refine E_istore_n (L2 := [some (.ref 0), some (.int 0), some (.int 0)]) rfl rfl ?_
  refine E_aload_n rfl rfl ?_
  refine E_getfield (v := .ref 1) rfl rfl rfl (by decide) rfl ?_
  refine E_iload_n rfl rfl ?_
  refine E_putfield (cs2 := (w0.set 1 (.inr (.inr (.inr (4, [.ref 2, .ref 3, .ref 4, .ref 5, .ref 6, .ref 7, .ref 8, .ref 9, .ref 10, .int 0, .int 0, .int 0, .int 0, .int 0, .int 1])))))) rfl rfl rfl (by decide) (Nat.le_of_ble_eq_true rfl) rfl rfl rfl rfl ?_
  refine E_iload_n rfl rfl ?_
  exact E_iret rfl rfl
theorem c196_X6_isFrom : Ev ab_Z0 1 134 [.ref 65, .int 0, .int 0, .int 1] (w0.set 1 (.inr (.inr (.inr (4, [.ref 2, .ref 3, .ref 4, .ref 5, .ref 6, .ref 7, .ref 8, .ref 9, .ref 10, .int 0, .int 0, .int 0, .int 0, .int 0, .int 1]))))) (some (.int 1), (w0.set 1 (.inr (.inr (.inr (4, [.ref 2, .ref 3, .ref 4, .ref 5, .ref 6, .ref 7, .ref 8, .ref 9, .ref 10, .int 0, .int 0, .int 0, .int 0, .int 0, .int 1])))))) := by
  refine Ef.in (md := mX6_isFrom) (L := [some (.ref 65), some (.int 0), some (.int 0), some (.int 1)]) rfl (Nat.le_of_ble_eq_true rfl) rfl ?_
  refine E_iload_n rfl rfl ?_
  refine E_iload_n rfl rfl ?_
  refine E_ic (t := 14) (b := false) rfl rfl (by decide) ?_
  refine E_iload_n rfl rfl ?_
  refine E_iload_n rfl rfl ?_
  refine E_ic (t := 14) (b := false) rfl rfl (by decide) ?_
  refine E_iconst (x := 1) rfl (by decide) ?_
  refine E_goto (t := 15) rfl rfl ?_
  exact E_iret rfl rfl
theorem c195_X6_rule : Ev ab_Z0 2 151 [.ref 65, .int 0] (w0.set 1 (.inr (.inr (.inr (4, [.ref 2, .ref 3, .ref 4, .ref 5, .ref 6, .ref 7, .ref 8, .ref 9, .ref 10, .int 0, .int 0, .int 0, .int 0, .int 0, .int 1]))))) (some (.int 0), ((w0.set 1 (.inr (.inr (.inr (4, [.ref 2, .ref 3, .ref 4, .ref 5, .ref 6, .ref 7, .ref 8, .ref 9, .ref 10, .int 0, .int 0, .int 0, .int 0, .int 0, .int 1]))))).set 65 (.inr (.inr (.inr (6, [.int 0, .int 0, .int 0, .int 0, .int 0, .int 1, .int (-1), .ref 66, .ref 67, .ref 68, .ref 69, .ref 70, .ref 71, .ref 72, .ref 73, .ref 74, .ref 75, .ref 76, .ref 77, .ref 78, .ref 79, .ref 80, .ref 81, .ref 82, .ref 83, .ref 84, .ref 85, .int 0, .int 0, .int 0, .int 0, .int 0, .ref 86, .ref 87, .ref 88, .ref 89, .int 0, .int 0, .ref 90, .ref 91, .ref 92, .ref 93, .int 0, .int 0, .int 0, .int 0, .ref 94, .int 0, .int 0])))))) := by
  refine Ef.in (md := mX6_rule) (L := [some (.ref 65), some (.int 0), none]) rfl (Nat.le_of_ble_eq_true rfl) rfl ?_
  refine E_aload_n rfl rfl ?_
  refine E_iload_n rfl rfl ?_
  refine E_iconst (x := 0) rfl (by decide) ?_
  refine E_iconst (x := 1) rfl (by decide) ?_
  refine E_callV (v := some (.int 1)) (As := [.ref 65, .int 0, .int 0, .int 1]) (r0 := []) (cs2 := (w0.set 1 (.inr (.inr (.inr (4, [.ref 2, .ref 3, .ref 4, .ref 5, .ref 6, .ref 7, .ref 8, .ref 9, .ref 10, .int 0, .int 0, .int 0, .int 0, .int 0, .int 1])))))) rfl rfl rfl (Nat.le_of_ble_eq_true rfl) rfl rfl c196_X6_isFrom (by decide) rfl ?_
  refine E_if (t := 17) (b := true) rfl rfl (by decide) ?_
  refine E_aload_n rfl rfl ?_
  refine E_getfield (v := .int 0) rfl rfl rfl (by decide) rfl ?_
  refine E_istore_n (L2 := [some (.ref 65), some (.int 0), some (.int 0)]) rfl rfl ?_
  refine E_aload_n rfl rfl ?_
  refine E_iload_n rfl rfl ?_
  refine E_putfield (cs2 := ((w0.set 1 (.inr (.inr (.inr (4, [.ref 2, .ref 3, .ref 4, .ref 5, .ref 6, .ref 7, .ref 8, .ref 9, .ref 10, .int 0, .int 0, .int 0, .int 0, .int 0, .int 1]))))).set 65 (.inr (.inr (.inr (6, [.int 0, .int 0, .int 0, .int 0, .int 0, .int 1, .int (-1), .ref 66, .ref 67, .ref 68, .ref 69, .ref 70, .ref 71, .ref 72, .ref 73, .ref 74, .ref 75, .ref 76, .ref 77, .ref 78, .ref 79, .ref 80, .ref 81, .ref 82, .ref 83, .ref 84, .ref 85, .int 0, .int 0, .int 0, .int 0, .int 0, .ref 86, .ref 87, .ref 88, .ref 89, .int 0, .int 0, .ref 90, .ref 91, .ref 92, .ref 93, .int 0, .int 0, .int 0, .int 0, .ref 94, .int 0, .int 0])))))) rfl rfl rfl (by decide) (Nat.le_of_ble_eq_true rfl) rfl rfl rfl rfl ?_
  refine E_iload_n rfl rfl ?_
  exact E_iret rfl rfl
theorem c197_X5_rule : Ev ab_Z0 3 86 [.ref 0, .int 1] w0 (some (.int 0), (w0.set 1 (.inr (.inr (.inr (4, [.ref 2, .ref 3, .ref 4, .ref 5, .ref 6, .ref 7, .ref 8, .ref 9, .ref 10, .int 0, .int 0, .int 1, .int 0, .int 0, .int 1])))))) := by
  refine Ef.in (md := mX5_rule) (L := [some (.ref 0), some (.int 1), none]) rfl (Nat.le_of_ble_eq_true rfl) rfl ?_
  refine E_iload_n rfl rfl ?_
  refine E_if (t := 16) (b := false) rfl rfl (by decide) ?_
  refine E_iload_n rfl rfl ?_
  refine E_iconst (x := 1) rfl (by decide) ?_
  refine E_ic (t := 16) (b := true) rfl rfl (by decide) ?_
  refine E_aload_n rfl rfl ?_
  refine E_getfield (v := .ref 1) rfl rfl rfl (by decide) rfl ?_
  refine E_getfield (v := .int 0) rfl rfl rfl (by decide) rfl ?_
  refine E_istore_n (L2 := [some (.ref 0), some (.int 1), some (.int 0)]) rfl rfl ?_
  refine E_aload_n rfl rfl ?_
  refine E_getfield (v := .ref 1) rfl rfl rfl (by decide) rfl ?_
  refine E_iload_n rfl rfl ?_
  refine E_putfield (cs2 := (w0.set 1 (.inr (.inr (.inr (4, [.ref 2, .ref 3, .ref 4, .ref 5, .ref 6, .ref 7, .ref 8, .ref 9, .ref 10, .int 0, .int 0, .int 1, .int 0, .int 0, .int 1])))))) rfl rfl rfl (by decide) (Nat.le_of_ble_eq_true rfl) rfl rfl rfl rfl ?_
  refine E_iload_n rfl rfl ?_
  exact E_iret rfl rfl
theorem c199_X6_isFrom : Ev ab_Z0 1 134 [.ref 65, .int 1, .int 0, .int 1] (w0.set 1 (.inr (.inr (.inr (4, [.ref 2, .ref 3, .ref 4, .ref 5, .ref 6, .ref 7, .ref 8, .ref 9, .ref 10, .int 0, .int 0, .int 1, .int 0, .int 0, .int 1]))))) (some (.int 1), (w0.set 1 (.inr (.inr (.inr (4, [.ref 2, .ref 3, .ref 4, .ref 5, .ref 6, .ref 7, .ref 8, .ref 9, .ref 10, .int 0, .int 0, .int 1, .int 0, .int 0, .int 1])))))) := by
  refine Ef.in (md := mX6_isFrom) (L := [some (.ref 65), some (.int 1), some (.int 0), some (.int 1)]) rfl (Nat.le_of_ble_eq_true rfl) rfl ?_
  refine E_iload_n rfl rfl ?_
  refine E_iload_n rfl rfl ?_
  refine E_ic (t := 14) (b := false) rfl rfl (by decide) ?_
  refine E_iload_n rfl rfl ?_
  refine E_iload_n rfl rfl ?_
  refine E_ic (t := 14) (b := false) rfl rfl (by decide) ?_
  refine E_iconst (x := 1) rfl (by decide) ?_
  refine E_goto (t := 15) rfl rfl ?_
  exact E_iret rfl rfl
theorem c198_X6_rule : Ev ab_Z0 2 151 [.ref 65, .int 1] (w0.set 1 (.inr (.inr (.inr (4, [.ref 2, .ref 3, .ref 4, .ref 5, .ref 6, .ref 7, .ref 8, .ref 9, .ref 10, .int 0, .int 0, .int 1, .int 0, .int 0, .int 1]))))) (some (.int 0), ((w0.set 1 (.inr (.inr (.inr (4, [.ref 2, .ref 3, .ref 4, .ref 5, .ref 6, .ref 7, .ref 8, .ref 9, .ref 10, .int 0, .int 0, .int 1, .int 0, .int 0, .int 1]))))).set 65 (.inr (.inr (.inr (6, [.int 0, .int 0, .int 1, .int 0, .int 0, .int 1, .int (-1), .ref 66, .ref 67, .ref 68, .ref 69, .ref 70, .ref 71, .ref 72, .ref 73, .ref 74, .ref 75, .ref 76, .ref 77, .ref 78, .ref 79, .ref 80, .ref 81, .ref 82, .ref 83, .ref 84, .ref 85, .int 0, .int 0, .int 0, .int 0, .int 0, .ref 86, .ref 87, .ref 88, .ref 89, .int 0, .int 0, .ref 90, .ref 91, .ref 92, .ref 93, .int 0, .int 0, .int 0, .int 0, .ref 94, .int 0, .int 0])))))) := by
  refine Ef.in (md := mX6_rule) (L := [some (.ref 65), some (.int 1), none]) rfl (Nat.le_of_ble_eq_true rfl) rfl ?_
  refine E_aload_n rfl rfl ?_
  refine E_iload_n rfl rfl ?_
  refine E_iconst (x := 0) rfl (by decide) ?_
  refine E_iconst (x := 1) rfl (by decide) ?_
  refine E_callV (v := some (.int 1)) (As := [.ref 65, .int 1, .int 0, .int 1]) (r0 := []) (cs2 := (w0.set 1 (.inr (.inr (.inr (4, [.ref 2, .ref 3, .ref 4, .ref 5, .ref 6, .ref 7, .ref 8, .ref 9, .ref 10, .int 0, .int 0, .int 1, .int 0, .int 0, .int 1])))))) rfl rfl rfl (Nat.le_of_ble_eq_true rfl) rfl rfl c199_X6_isFrom (by decide) rfl ?_
  refine E_if (t := 17) (b := true) rfl rfl (by decide) ?_
  refine E_aload_n rfl rfl ?_
  refine E_getfield (v := .int 0) rfl rfl rfl (by decide) rfl ?_
  refine E_istore_n (L2 := [some (.ref 65), some (.int 1), some (.int 0)]) rfl rfl ?_
  refine E_aload_n rfl rfl ?_
  refine E_iload_n rfl rfl ?_
  refine E_putfield (cs2 := ((w0.set 1 (.inr (.inr (.inr (4, [.ref 2, .ref 3, .ref 4, .ref 5, .ref 6, .ref 7, .ref 8, .ref 9, .ref 10, .int 0, .int 0, .int 1, .int 0, .int 0, .int 1]))))).set 65 (.inr (.inr (.inr (6, [.int 0, .int 0, .int 1, .int 0, .int 0, .int 1, .int (-1), .ref 66, .ref 67, .ref 68, .ref 69, .ref 70, .ref 71, .ref 72, .ref 73, .ref 74, .ref 75, .ref 76, .ref 77, .ref 78, .ref 79, .ref 80, .ref 81, .ref 82, .ref 83, .ref 84, .ref 85, .int 0, .int 0, .int 0, .int 0, .int 0, .ref 86, .ref 87, .ref 88, .ref 89, .int 0, .int 0, .ref 90, .ref 91, .ref 92, .ref 93, .int 0, .int 0, .int 0, .int 0, .ref 94, .int 0, .int 0])))))) rfl rfl rfl (by decide) (Nat.le_of_ble_eq_true rfl) rfl rfl rfl rfl ?_
  refine E_iload_n rfl rfl ?_
  exact E_iret rfl rfl
theorem f_rule_1 (a1 : Int32) (ha1h : a1.toInt ≤ -1) : p1_P 3 86 2 151 [.ref 0, .int a1] [.ref 65, .int a1] :=
  ⟨(-6), (w0.set 48 (.inl [0, 0, 0, 0, 0, 0, 1, 0])), ((w0.set 48 (.inl [0, 0, 0, 0, 0, 0, 1, 0])).set 66 (.inl [0, 0, 0, 0, 0, 0, 1, 0])), by
    refine Ef.in (md := mX5_rule) (L := [some (.ref 0), some (.int a1), none]) rfl (Nat.le_of_ble_eq_true rfl) rfl ?_
    refine E_iload_n rfl rfl ?_
    refine E_if (t := 16) (b := false) rfl rfl ((cn_eq (rfl : (a1).toInt = (a1).toInt) (by decide : (0 : Int32).toInt = 0)).trans (decide_eq_false (by omega))) ?_
    refine E_iload_n rfl rfl ?_
    refine E_iconst (x := 1) rfl (by decide) ?_
    refine E_ic (t := 16) (b := false) rfl rfl ((cn_eq (rfl : (a1).toInt = (a1).toInt) (by decide : (1 : Int32).toInt = 1)).trans (decide_eq_false (by omega))) ?_
    refine E_aload_n rfl rfl ?_
    refine E_bipush (x := 6) rfl (by decide) ?_
    refine E_callV (v := some (.int (-6))) (As := [.ref 0, .int 6]) (r0 := []) (cs2 := (w0.set 48 (.inl [0, 0, 0, 0, 0, 0, 1, 0]))) rfl rfl rfl (Nat.le_of_ble_eq_true rfl) rfl rfl c7_X5_refuse (by decide) (by simp only [List.length_set]) ?_
    exact E_iret rfl rfl, by
    refine Ef.in (md := mX6_rule) (L := [some (.ref 65), some (.int a1), none]) rfl (Nat.le_of_ble_eq_true rfl) rfl ?_
    refine E_aload_n rfl rfl ?_
    refine E_iload_n rfl rfl ?_
    refine E_iconst (x := 0) rfl (by decide) ?_
    refine E_iconst (x := 1) rfl (by decide) ?_
    have e5 : Ev ab_Z0 1 134 [.ref 65, .int a1, .int 0, .int 1] (w0.set 48 (.inl [0, 0, 0, 0, 0, 0, 1, 0])) (some (.int 0), (w0.set 48 (.inl [0, 0, 0, 0, 0, 0, 1, 0]))) := by
      refine Ef.in (md := mX6_isFrom) (L := [some (.ref 65), some (.int a1), some (.int 0), some (.int 1)]) rfl (Nat.le_of_ble_eq_true rfl) rfl ?_
      refine E_iload_n rfl rfl ?_
      refine E_iload_n rfl rfl ?_
      refine E_ic (t := 14) (b := true) rfl rfl ((cn_lt (rfl : (a1).toInt = (a1).toInt) (by decide : (0 : Int32).toInt = 0)).trans (decide_eq_true (by omega))) ?_
      refine E_iconst (x := 0) rfl (by decide) ?_
      exact E_iret rfl rfl
    refine E_callV (v := some (.int 0)) (As := [.ref 65, .int a1, .int 0, .int 1]) (r0 := []) (cs2 := (w0.set 48 (.inl [0, 0, 0, 0, 0, 0, 1, 0]))) rfl rfl rfl (Nat.le_of_ble_eq_true rfl) rfl rfl e5 (by decide) rfl ?_
    refine E_if (t := 17) (b := false) rfl rfl (by decide) ?_
    refine E_aload_n rfl rfl ?_
    refine E_bipush (x := (-6)) rfl (by decide) ?_
    refine E_callV (v := some (.int (-6))) (As := [.ref 65, .int (-6)]) (r0 := []) (cs2 := ((w0.set 48 (.inl [0, 0, 0, 0, 0, 0, 1, 0])).set 66 (.inl [0, 0, 0, 0, 0, 0, 1, 0]))) rfl rfl rfl (Nat.le_of_ble_eq_true rfl) rfl rfl c9_X6_no (by decide) (by simp only [List.length_set]) ?_
    exact E_iret rfl rfl, (by simp only [List.length_set]; rfl), (by simp only [List.length_set]; rfl), ((ab_szs rfl).trans ((ab_szs rfl).trans rfl)), fun _ => rfl⟩
theorem f_rule_2 : p1_P 3 86 2 151 [.ref 0, .int 0] [.ref 65, .int 0] :=
  ⟨0, (w0.set 1 (.inr (.inr (.inr (4, [.ref 2, .ref 3, .ref 4, .ref 5, .ref 6, .ref 7, .ref 8, .ref 9, .ref 10, .int 0, .int 0, .int 0, .int 0, .int 0, .int 1]))))), ((w0.set 1 (.inr (.inr (.inr (4, [.ref 2, .ref 3, .ref 4, .ref 5, .ref 6, .ref 7, .ref 8, .ref 9, .ref 10, .int 0, .int 0, .int 0, .int 0, .int 0, .int 1]))))).set 65 (.inr (.inr (.inr (6, [.int 0, .int 0, .int 0, .int 0, .int 0, .int 1, .int (-1), .ref 66, .ref 67, .ref 68, .ref 69, .ref 70, .ref 71, .ref 72, .ref 73, .ref 74, .ref 75, .ref 76, .ref 77, .ref 78, .ref 79, .ref 80, .ref 81, .ref 82, .ref 83, .ref 84, .ref 85, .int 0, .int 0, .int 0, .int 0, .int 0, .ref 86, .ref 87, .ref 88, .ref 89, .int 0, .int 0, .ref 90, .ref 91, .ref 92, .ref 93, .int 0, .int 0, .int 0, .int 0, .ref 94, .int 0, .int 0]))))), by
    exact c194_X5_rule, by
    exact c195_X6_rule, (by simp only [List.length_set]; rfl), (by simp only [List.length_set]; rfl), ((ab_szs rfl).trans ((ab_szs rfl).trans rfl)), fun _ => rfl⟩
theorem f_rule_3 : p1_P 3 86 2 151 [.ref 0, .int 1] [.ref 65, .int 1] :=
  ⟨0, (w0.set 1 (.inr (.inr (.inr (4, [.ref 2, .ref 3, .ref 4, .ref 5, .ref 6, .ref 7, .ref 8, .ref 9, .ref 10, .int 0, .int 0, .int 1, .int 0, .int 0, .int 1]))))), ((w0.set 1 (.inr (.inr (.inr (4, [.ref 2, .ref 3, .ref 4, .ref 5, .ref 6, .ref 7, .ref 8, .ref 9, .ref 10, .int 0, .int 0, .int 1, .int 0, .int 0, .int 1]))))).set 65 (.inr (.inr (.inr (6, [.int 0, .int 0, .int 1, .int 0, .int 0, .int 1, .int (-1), .ref 66, .ref 67, .ref 68, .ref 69, .ref 70, .ref 71, .ref 72, .ref 73, .ref 74, .ref 75, .ref 76, .ref 77, .ref 78, .ref 79, .ref 80, .ref 81, .ref 82, .ref 83, .ref 84, .ref 85, .int 0, .int 0, .int 0, .int 0, .int 0, .ref 86, .ref 87, .ref 88, .ref 89, .int 0, .int 0, .ref 90, .ref 91, .ref 92, .ref 93, .int 0, .int 0, .int 0, .int 0, .ref 94, .int 0, .int 0]))))), by
    exact c197_X5_rule, by
    exact c198_X6_rule, (by simp only [List.length_set]; rfl), (by simp only [List.length_set]; rfl), ((ab_szs rfl).trans ((ab_szs rfl).trans rfl)), fun _ => rfl⟩
theorem f_rule_4 (a1 : Int32) (ha1l : (2 : Int) ≤ a1.toInt) : p1_P 3 86 2 151 [.ref 0, .int a1] [.ref 65, .int a1] :=
  ⟨(-6), (w0.set 48 (.inl [0, 0, 0, 0, 0, 0, 1, 0])), ((w0.set 48 (.inl [0, 0, 0, 0, 0, 0, 1, 0])).set 66 (.inl [0, 0, 0, 0, 0, 0, 1, 0])), by
    refine Ef.in (md := mX5_rule) (L := [some (.ref 0), some (.int a1), none]) rfl (Nat.le_of_ble_eq_true rfl) rfl ?_
    refine E_iload_n rfl rfl ?_
    refine E_if (t := 16) (b := false) rfl rfl ((cn_eq (rfl : (a1).toInt = (a1).toInt) (by decide : (0 : Int32).toInt = 0)).trans (decide_eq_false (by omega))) ?_
    refine E_iload_n rfl rfl ?_
    refine E_iconst (x := 1) rfl (by decide) ?_
    refine E_ic (t := 16) (b := false) rfl rfl ((cn_eq (rfl : (a1).toInt = (a1).toInt) (by decide : (1 : Int32).toInt = 1)).trans (decide_eq_false (by omega))) ?_
    refine E_aload_n rfl rfl ?_
    refine E_bipush (x := 6) rfl (by decide) ?_
    refine E_callV (v := some (.int (-6))) (As := [.ref 0, .int 6]) (r0 := []) (cs2 := (w0.set 48 (.inl [0, 0, 0, 0, 0, 0, 1, 0]))) rfl rfl rfl (Nat.le_of_ble_eq_true rfl) rfl rfl c7_X5_refuse (by decide) (by simp only [List.length_set]) ?_
    exact E_iret rfl rfl, by
    refine Ef.in (md := mX6_rule) (L := [some (.ref 65), some (.int a1), none]) rfl (Nat.le_of_ble_eq_true rfl) rfl ?_
    refine E_aload_n rfl rfl ?_
    refine E_iload_n rfl rfl ?_
    refine E_iconst (x := 0) rfl (by decide) ?_
    refine E_iconst (x := 1) rfl (by decide) ?_
    have e5 : Ev ab_Z0 1 134 [.ref 65, .int a1, .int 0, .int 1] (w0.set 48 (.inl [0, 0, 0, 0, 0, 0, 1, 0])) (some (.int 0), (w0.set 48 (.inl [0, 0, 0, 0, 0, 0, 1, 0]))) := by
      refine Ef.in (md := mX6_isFrom) (L := [some (.ref 65), some (.int a1), some (.int 0), some (.int 1)]) rfl (Nat.le_of_ble_eq_true rfl) rfl ?_
      refine E_iload_n rfl rfl ?_
      refine E_iload_n rfl rfl ?_
      refine E_ic (t := 14) (b := false) rfl rfl ((cn_lt (rfl : (a1).toInt = (a1).toInt) (by decide : (0 : Int32).toInt = 0)).trans (decide_eq_false (by omega))) ?_
      refine E_iload_n rfl rfl ?_
      refine E_iload_n rfl rfl ?_
      refine E_ic (t := 14) (b := true) rfl rfl ((cn_gt (rfl : (a1).toInt = (a1).toInt) (by decide : (1 : Int32).toInt = 1)).trans (decide_eq_true (by omega))) ?_
      refine E_iconst (x := 0) rfl (by decide) ?_
      exact E_iret rfl rfl
    refine E_callV (v := some (.int 0)) (As := [.ref 65, .int a1, .int 0, .int 1]) (r0 := []) (cs2 := (w0.set 48 (.inl [0, 0, 0, 0, 0, 0, 1, 0]))) rfl rfl rfl (Nat.le_of_ble_eq_true rfl) rfl rfl e5 (by decide) rfl ?_
    refine E_if (t := 17) (b := false) rfl rfl (by decide) ?_
    refine E_aload_n rfl rfl ?_
    refine E_bipush (x := (-6)) rfl (by decide) ?_
    refine E_callV (v := some (.int (-6))) (As := [.ref 65, .int (-6)]) (r0 := []) (cs2 := ((w0.set 48 (.inl [0, 0, 0, 0, 0, 0, 1, 0])).set 66 (.inl [0, 0, 0, 0, 0, 0, 1, 0]))) rfl rfl rfl (Nat.le_of_ble_eq_true rfl) rfl rfl c9_X6_no (by decide) (by simp only [List.length_set]) ?_
    exact E_iret rfl rfl, (by simp only [List.length_set]; rfl), (by simp only [List.length_set]; rfl), ((ab_szs rfl).trans ((ab_szs rfl).trans rfl)), fun _ => rfl⟩
theorem f_rule (a1 : Int32) : p1_P 3 86 2 151 [.ref 0, .int a1] [.ref 65, .int a1] := by
  rcases ab_ltge a1.toInt (0) with h | h
  · exact f_rule_1 a1 (by omega)
  rcases ab_ltge a1.toInt (1) with h | h
  · obtain rfl : a1 = 0 := Int32.toInt_inj.mp (by rw [show ((0 : Int32).toInt = 0) by decide]; omega)
    exact f_rule_2
  rcases ab_ltge a1.toInt (2) with h | h
  · obtain rfl : a1 = 1 := Int32.toInt_inj.mp (by rw [show ((1 : Int32).toInt = 1) by decide]; omega)
    exact f_rule_3
  exact f_rule_4 a1 (by omega)
