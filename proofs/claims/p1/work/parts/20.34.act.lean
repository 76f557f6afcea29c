theorem f_act_1 (a1 a2 a3 : Int32) (ha1h : a1.toInt ≤ -1) (ha2h : a2.toInt ≤ -1) : p1_P 5 110 5 208 [.ref 0, .int a1, .int a2, .int a3] [.ref 65, .int a1, .int a2, .int a3] :=
  ⟨0, (w0.set 46 (.inr (.inr (.inr (1, [.ref 47, .int 0, .int 0, .int 0, .int 0]))))), ((w0.set 46 (.inr (.inr (.inr (1, [.ref 47, .int 0, .int 0, .int 0, .int 0]))))).set 65 (.inr (.inr (.inr (6, [.int 0, .int 0, .int 0, .int 0, .int 0, .int 1, .int (-1), .ref 66, .ref 67, .ref 68, .ref 69, .ref 70, .ref 71, .ref 72, .ref 73, .ref 74, .ref 75, .ref 76, .ref 77, .ref 78, .ref 79, .ref 80, .ref 81, .ref 82, .ref 83, .ref 84, .ref 85, .int 0, .int 0, .int 0, .int 0, .int 0, .ref 86, .ref 87, .ref 88, .ref 89, .int 0, .int 0, .ref 90, .ref 91, .ref 92, .ref 93, .int 0, .int 0, .int 0, .int 0, .ref 94, .int 0, .int 0]))))), by
    refine Ef.in (md := mX5_act) (L := [some (.ref 0), some (.int a1), some (.int a2), some (.int a3)]) rfl (Nat.le_of_ble_eq_true rfl) rfl ?_
    refine E_aload_n rfl rfl ?_
    refine E_getfield (v := .ref 46) rfl rfl rfl (by decide) rfl ?_
    refine E_aload_n rfl rfl ?_
    refine E_getfield (v := .ref 1) rfl rfl rfl (by decide) rfl ?_
    refine E_iload_n rfl rfl ?_
    refine E_iload_n rfl rfl ?_
    refine E_iload_n rfl rfl ?_
    have e8 : Ev ab_Z0 4 8 [.ref 46, .ref 1, .int a1, .int a2, .int a3] w0 (some (.int 0), (w0.set 46 (.inr (.inr (.inr (1, [.ref 47, .int 0, .int 0, .int 0, .int 0])))))) := by
      refine Ef.in (md := mX1_answer) (L := [some (.ref 46), some (.ref 1), some (.int a1), some (.int a2), some (.int a3)]) rfl (Nat.le_of_ble_eq_true rfl) rfl ?_
      refine E_aload_n rfl rfl ?_
      refine E_iconst (x := 0) rfl (by decide) ?_
      refine E_putfield (cs2 := (w0.set 46 (.inr (.inr (.inr (1, [.ref 47, .int 0, .int 0, .int 0, .int 0])))))) rfl rfl rfl (by decide) (Nat.le_of_ble_eq_true rfl) rfl rfl rfl rfl ?_
      refine E_iload_n rfl rfl ?_
      refine E_if (t := 22) (b := true) rfl rfl ((cn_lt (rfl : (a2).toInt = (a2).toInt) (by decide : (0 : Int32).toInt = 0)).trans (decide_eq_true (by omega))) ?_
      refine E_iconst (x := 0) rfl (by decide) ?_
      exact E_iret rfl rfl
    refine E_callV (v := some (.int 0)) (As := [.ref 46, .ref 1, .int a1, .int a2, .int a3]) (r0 := []) (cs2 := (w0.set 46 (.inr (.inr (.inr (1, [.ref 47, .int 0, .int 0, .int 0, .int 0])))))) rfl rfl rfl (Nat.le_of_ble_eq_true rfl) rfl rfl e8 (by decide) (by simp only [List.length_set]) ?_
    exact E_iret rfl rfl, by
    refine Ef.in (md := mX6_act) (L := [some (.ref 65), some (.int a1), some (.int a2), some (.int a3)]) rfl (Nat.le_of_ble_eq_true rfl) rfl ?_
    refine E_aload_n rfl rfl ?_
    refine E_iconst (x := 0) rfl (by decide) ?_
    refine E_putfield (cs2 := ((w0.set 46 (.inr (.inr (.inr (1, [.ref 47, .int 0, .int 0, .int 0, .int 0]))))).set 65 (.inr (.inr (.inr (6, [.int 0, .int 0, .int 0, .int 0, .int 0, .int 1, .int (-1), .ref 66, .ref 67, .ref 68, .ref 69, .ref 70, .ref 71, .ref 72, .ref 73, .ref 74, .ref 75, .ref 76, .ref 77, .ref 78, .ref 79, .ref 80, .ref 81, .ref 82, .ref 83, .ref 84, .ref 85, .int 0, .int 0, .int 0, .int 0, .int 0, .ref 86, .ref 87, .ref 88, .ref 89, .int 0, .int 0, .ref 90, .ref 91, .ref 92, .ref 93, .int 0, .int 0, .int 0, .int 0, .ref 94, .int 0, .int 0])))))) rfl rfl rfl (by decide) (Nat.le_of_ble_eq_true rfl) rfl rfl rfl rfl ?_
    refine E_aload_n rfl rfl ?_
    refine E_iload_n rfl rfl ?_
    have e6 : Ev ab_Z0 1 132 [.ref 65, .int a1] ((w0.set 46 (.inr (.inr (.inr (1, [.ref 47, .int 0, .int 0, .int 0, .int 0]))))).set 65 (.inr (.inr (.inr (6, [.int 0, .int 0, .int 0, .int 0, .int 0, .int 1, .int (-1), .ref 66, .ref 67, .ref 68, .ref 69, .ref 70, .ref 71, .ref 72, .ref 73, .ref 74, .ref 75, .ref 76, .ref 77, .ref 78, .ref 79, .ref 80, .ref 81, .ref 82, .ref 83, .ref 84, .ref 85, .int 0, .int 0, .int 0, .int 0, .int 0, .ref 86, .ref 87, .ref 88, .ref 89, .int 0, .int 0, .ref 90, .ref 91, .ref 92, .ref 93, .int 0, .int 0, .int 0, .int 0, .ref 94, .int 0, .int 0]))))) (some (.int 0), ((w0.set 46 (.inr (.inr (.inr (1, [.ref 47, .int 0, .int 0, .int 0, .int 0]))))).set 65 (.inr (.inr (.inr (6, [.int 0, .int 0, .int 0, .int 0, .int 0, .int 1, .int (-1), .ref 66, .ref 67, .ref 68, .ref 69, .ref 70, .ref 71, .ref 72, .ref 73, .ref 74, .ref 75, .ref 76, .ref 77, .ref 78, .ref 79, .ref 80, .ref 81, .ref 82, .ref 83, .ref 84, .ref 85, .int 0, .int 0, .int 0, .int 0, .int 0, .ref 86, .ref 87, .ref 88, .ref 89, .int 0, .int 0, .ref 90, .ref 91, .ref 92, .ref 93, .int 0, .int 0, .int 0, .int 0, .ref 94, .int 0, .int 0])))))) := by
      refine Ef.in (md := mX6_isPiece) (L := [some (.ref 65), some (.int a1)]) rfl (Nat.le_of_ble_eq_true rfl) rfl ?_
      refine E_iload_n rfl rfl ?_
      refine E_if (t := 16) (b := true) rfl rfl ((cn_lt (rfl : (a1).toInt = (a1).toInt) (by decide : (0 : Int32).toInt = 0)).trans (decide_eq_true (by omega))) ?_
      refine E_iconst (x := 0) rfl (by decide) ?_
      exact E_iret rfl rfl
    refine E_callV (v := some (.int 0)) (As := [.ref 65, .int a1]) (r0 := []) (cs2 := ((w0.set 46 (.inr (.inr (.inr (1, [.ref 47, .int 0, .int 0, .int 0, .int 0]))))).set 65 (.inr (.inr (.inr (6, [.int 0, .int 0, .int 0, .int 0, .int 0, .int 1, .int (-1), .ref 66, .ref 67, .ref 68, .ref 69, .ref 70, .ref 71, .ref 72, .ref 73, .ref 74, .ref 75, .ref 76, .ref 77, .ref 78, .ref 79, .ref 80, .ref 81, .ref 82, .ref 83, .ref 84, .ref 85, .int 0, .int 0, .int 0, .int 0, .int 0, .ref 86, .ref 87, .ref 88, .ref 89, .int 0, .int 0, .ref 90, .ref 91, .ref 92, .ref 93, .int 0, .int 0, .int 0, .int 0, .ref 94, .int 0, .int 0])))))) rfl rfl rfl (Nat.le_of_ble_eq_true rfl) rfl rfl e6 (by decide) rfl ?_
    refine E_if (t := 22) (b := true) rfl rfl (by decide) ?_
    refine E_iconst (x := 0) rfl (by decide) ?_
    exact E_iret rfl rfl, (by simp only [List.length_set]; rfl), (by simp only [List.length_set]; rfl), ((ab_szs rfl).trans ((ab_szs rfl).trans rfl)), fun _ => rfl⟩
theorem f_act_2 (a1 a2 a3 : Int32) (ha1l : (0 : Int) ≤ a1.toInt) (ha2h : a2.toInt ≤ -1) : p1_P 5 110 5 208 [.ref 0, .int a1, .int a2, .int a3] [.ref 65, .int a1, .int a2, .int a3] :=
  ⟨0, (w0.set 46 (.inr (.inr (.inr (1, [.ref 47, .int 0, .int 0, .int 0, .int 0]))))), ((w0.set 46 (.inr (.inr (.inr (1, [.ref 47, .int 0, .int 0, .int 0, .int 0]))))).set 65 (.inr (.inr (.inr (6, [.int 0, .int 0, .int 0, .int 0, .int 0, .int 1, .int (-1), .ref 66, .ref 67, .ref 68, .ref 69, .ref 70, .ref 71, .ref 72, .ref 73, .ref 74, .ref 75, .ref 76, .ref 77, .ref 78, .ref 79, .ref 80, .ref 81, .ref 82, .ref 83, .ref 84, .ref 85, .int 0, .int 0, .int 0, .int 0, .int 0, .ref 86, .ref 87, .ref 88, .ref 89, .int 0, .int 0, .ref 90, .ref 91, .ref 92, .ref 93, .int 0, .int 0, .int 0, .int 0, .ref 94, .int 0, .int 0]))))), by
    refine Ef.in (md := mX5_act) (L := [some (.ref 0), some (.int a1), some (.int a2), some (.int a3)]) rfl (Nat.le_of_ble_eq_true rfl) rfl ?_
    refine E_aload_n rfl rfl ?_
    refine E_getfield (v := .ref 46) rfl rfl rfl (by decide) rfl ?_
    refine E_aload_n rfl rfl ?_
    refine E_getfield (v := .ref 1) rfl rfl rfl (by decide) rfl ?_
    refine E_iload_n rfl rfl ?_
    refine E_iload_n rfl rfl ?_
    refine E_iload_n rfl rfl ?_
    have e8 : Ev ab_Z0 4 8 [.ref 46, .ref 1, .int a1, .int a2, .int a3] w0 (some (.int 0), (w0.set 46 (.inr (.inr (.inr (1, [.ref 47, .int 0, .int 0, .int 0, .int 0])))))) := by
      refine Ef.in (md := mX1_answer) (L := [some (.ref 46), some (.ref 1), some (.int a1), some (.int a2), some (.int a3)]) rfl (Nat.le_of_ble_eq_true rfl) rfl ?_
      refine E_aload_n rfl rfl ?_
      refine E_iconst (x := 0) rfl (by decide) ?_
      refine E_putfield (cs2 := (w0.set 46 (.inr (.inr (.inr (1, [.ref 47, .int 0, .int 0, .int 0, .int 0])))))) rfl rfl rfl (by decide) (Nat.le_of_ble_eq_true rfl) rfl rfl rfl rfl ?_
      refine E_iload_n rfl rfl ?_
      refine E_if (t := 22) (b := true) rfl rfl ((cn_lt (rfl : (a2).toInt = (a2).toInt) (by decide : (0 : Int32).toInt = 0)).trans (decide_eq_true (by omega))) ?_
      refine E_iconst (x := 0) rfl (by decide) ?_
      exact E_iret rfl rfl
    refine E_callV (v := some (.int 0)) (As := [.ref 46, .ref 1, .int a1, .int a2, .int a3]) (r0 := []) (cs2 := (w0.set 46 (.inr (.inr (.inr (1, [.ref 47, .int 0, .int 0, .int 0, .int 0])))))) rfl rfl rfl (Nat.le_of_ble_eq_true rfl) rfl rfl e8 (by decide) (by simp only [List.length_set]) ?_
    exact E_iret rfl rfl, by
    refine Ef.in (md := mX6_act) (L := [some (.ref 65), some (.int a1), some (.int a2), some (.int a3)]) rfl (Nat.le_of_ble_eq_true rfl) rfl ?_
    refine E_aload_n rfl rfl ?_
    refine E_iconst (x := 0) rfl (by decide) ?_
    refine E_putfield (cs2 := ((w0.set 46 (.inr (.inr (.inr (1, [.ref 47, .int 0, .int 0, .int 0, .int 0]))))).set 65 (.inr (.inr (.inr (6, [.int 0, .int 0, .int 0, .int 0, .int 0, .int 1, .int (-1), .ref 66, .ref 67, .ref 68, .ref 69, .ref 70, .ref 71, .ref 72, .ref 73, .ref 74, .ref 75, .ref 76, .ref 77, .ref 78, .ref 79, .ref 80, .ref 81, .ref 82, .ref 83, .ref 84, .ref 85, .int 0, .int 0, .int 0, .int 0, .int 0, .ref 86, .ref 87, .ref 88, .ref 89, .int 0, .int 0, .ref 90, .ref 91, .ref 92, .ref 93, .int 0, .int 0, .int 0, .int 0, .ref 94, .int 0, .int 0])))))) rfl rfl rfl (by decide) (Nat.le_of_ble_eq_true rfl) rfl rfl rfl rfl ?_
    refine E_aload_n rfl rfl ?_
    refine E_iload_n rfl rfl ?_
    have e6 : Ev ab_Z0 1 132 [.ref 65, .int a1] ((w0.set 46 (.inr (.inr (.inr (1, [.ref 47, .int 0, .int 0, .int 0, .int 0]))))).set 65 (.inr (.inr (.inr (6, [.int 0, .int 0, .int 0, .int 0, .int 0, .int 1, .int (-1), .ref 66, .ref 67, .ref 68, .ref 69, .ref 70, .ref 71, .ref 72, .ref 73, .ref 74, .ref 75, .ref 76, .ref 77, .ref 78, .ref 79, .ref 80, .ref 81, .ref 82, .ref 83, .ref 84, .ref 85, .int 0, .int 0, .int 0, .int 0, .int 0, .ref 86, .ref 87, .ref 88, .ref 89, .int 0, .int 0, .ref 90, .ref 91, .ref 92, .ref 93, .int 0, .int 0, .int 0, .int 0, .ref 94, .int 0, .int 0]))))) (some (.int 0), ((w0.set 46 (.inr (.inr (.inr (1, [.ref 47, .int 0, .int 0, .int 0, .int 0]))))).set 65 (.inr (.inr (.inr (6, [.int 0, .int 0, .int 0, .int 0, .int 0, .int 1, .int (-1), .ref 66, .ref 67, .ref 68, .ref 69, .ref 70, .ref 71, .ref 72, .ref 73, .ref 74, .ref 75, .ref 76, .ref 77, .ref 78, .ref 79, .ref 80, .ref 81, .ref 82, .ref 83, .ref 84, .ref 85, .int 0, .int 0, .int 0, .int 0, .int 0, .ref 86, .ref 87, .ref 88, .ref 89, .int 0, .int 0, .ref 90, .ref 91, .ref 92, .ref 93, .int 0, .int 0, .int 0, .int 0, .ref 94, .int 0, .int 0])))))) := by
      refine Ef.in (md := mX6_isPiece) (L := [some (.ref 65), some (.int a1)]) rfl (Nat.le_of_ble_eq_true rfl) rfl ?_
      refine E_iload_n rfl rfl ?_
      refine E_if (t := 16) (b := false) rfl rfl ((cn_lt (rfl : (a1).toInt = (a1).toInt) (by decide : (0 : Int32).toInt = 0)).trans (decide_eq_false (by omega))) ?_
      refine E_iload_n rfl rfl ?_
      refine E_aload_n rfl rfl ?_
      refine E_getfield (v := .int 0) rfl rfl rfl (by decide) rfl ?_
      refine E_ic (t := 16) (b := true) rfl rfl ((cn_ge (rfl : (a1).toInt = (a1).toInt) (by decide : (0 : Int32).toInt = 0)).trans (decide_eq_true (by omega))) ?_
      refine E_iconst (x := 0) rfl (by decide) ?_
      exact E_iret rfl rfl
    refine E_callV (v := some (.int 0)) (As := [.ref 65, .int a1]) (r0 := []) (cs2 := ((w0.set 46 (.inr (.inr (.inr (1, [.ref 47, .int 0, .int 0, .int 0, .int 0]))))).set 65 (.inr (.inr (.inr (6, [.int 0, .int 0, .int 0, .int 0, .int 0, .int 1, .int (-1), .ref 66, .ref 67, .ref 68, .ref 69, .ref 70, .ref 71, .ref 72, .ref 73, .ref 74, .ref 75, .ref 76, .ref 77, .ref 78, .ref 79, .ref 80, .ref 81, .ref 82, .ref 83, .ref 84, .ref 85, .int 0, .int 0, .int 0, .int 0, .int 0, .ref 86, .ref 87, .ref 88, .ref 89, .int 0, .int 0, .ref 90, .ref 91, .ref 92, .ref 93, .int 0, .int 0, .int 0, .int 0, .ref 94, .int 0, .int 0])))))) rfl rfl rfl (Nat.le_of_ble_eq_true rfl) rfl rfl e6 (by decide) rfl ?_
    refine E_if (t := 22) (b := true) rfl rfl (by decide) ?_
    refine E_iconst (x := 0) rfl (by decide) ?_
    exact E_iret rfl rfl, (by simp only [List.length_set]; rfl), (by simp only [List.length_set]; rfl), ((ab_szs rfl).trans ((ab_szs rfl).trans rfl)), fun _ => rfl⟩
theorem f_act_3 (a1 a2 a3 : Int32) (ha1h : a1.toInt ≤ -1) (ha2l : (0 : Int) ≤ a2.toInt) (ha2h : a2.toInt ≤ 2) : p1_P 5 110 5 208 [.ref 0, .int a1, .int a2, .int a3] [.ref 65, .int a1, .int a2, .int a3] :=
  ⟨0, (w0.set 46 (.inr (.inr (.inr (1, [.ref 47, .int 0, .int 0, .int 0, .int 0]))))), ((w0.set 46 (.inr (.inr (.inr (1, [.ref 47, .int 0, .int 0, .int 0, .int 0]))))).set 65 (.inr (.inr (.inr (6, [.int 0, .int 0, .int 0, .int 0, .int 0, .int 1, .int (-1), .ref 66, .ref 67, .ref 68, .ref 69, .ref 70, .ref 71, .ref 72, .ref 73, .ref 74, .ref 75, .ref 76, .ref 77, .ref 78, .ref 79, .ref 80, .ref 81, .ref 82, .ref 83, .ref 84, .ref 85, .int 0, .int 0, .int 0, .int 0, .int 0, .ref 86, .ref 87, .ref 88, .ref 89, .int 0, .int 0, .ref 90, .ref 91, .ref 92, .ref 93, .int 0, .int 0, .int 0, .int 0, .ref 94, .int 0, .int 0]))))), by
    refine Ef.in (md := mX5_act) (L := [some (.ref 0), some (.int a1), some (.int a2), some (.int a3)]) rfl (Nat.le_of_ble_eq_true rfl) rfl ?_
    refine E_aload_n rfl rfl ?_
    refine E_getfield (v := .ref 46) rfl rfl rfl (by decide) rfl ?_
    refine E_aload_n rfl rfl ?_
    refine E_getfield (v := .ref 1) rfl rfl rfl (by decide) rfl ?_
    refine E_iload_n rfl rfl ?_
    refine E_iload_n rfl rfl ?_
    refine E_iload_n rfl rfl ?_
    have e8 : Ev ab_Z0 4 8 [.ref 46, .ref 1, .int a1, .int a2, .int a3] w0 (some (.int 0), (w0.set 46 (.inr (.inr (.inr (1, [.ref 47, .int 0, .int 0, .int 0, .int 0])))))) := by
      refine Ef.in (md := mX1_answer) (L := [some (.ref 46), some (.ref 1), some (.int a1), some (.int a2), some (.int a3)]) rfl (Nat.le_of_ble_eq_true rfl) rfl ?_
      refine E_aload_n rfl rfl ?_
      refine E_iconst (x := 0) rfl (by decide) ?_
      refine E_putfield (cs2 := (w0.set 46 (.inr (.inr (.inr (1, [.ref 47, .int 0, .int 0, .int 0, .int 0])))))) rfl rfl rfl (by decide) (Nat.le_of_ble_eq_true rfl) rfl rfl rfl rfl ?_
      refine E_iload_n rfl rfl ?_
      refine E_if (t := 22) (b := false) rfl rfl ((cn_lt (rfl : (a2).toInt = (a2).toInt) (by decide : (0 : Int32).toInt = 0)).trans (decide_eq_false (by omega))) ?_
      refine E_iload_n rfl rfl ?_
      refine E_iconst (x := 3) rfl (by decide) ?_
      refine E_ic (t := 22) (b := false) rfl rfl ((cn_ge (rfl : (a2).toInt = (a2).toInt) (by decide : (3 : Int32).toInt = 3)).trans (decide_eq_false (by omega))) ?_
      refine E_aload_n rfl rfl ?_
      refine E_iload_n rfl rfl ?_
      have e11 : Ev ab_Z0 1 50 [.ref 1, .int a1] (w0.set 46 (.inr (.inr (.inr (1, [.ref 47, .int 0, .int 0, .int 0, .int 0]))))) (some (.int 0), (w0.set 46 (.inr (.inr (.inr (1, [.ref 47, .int 0, .int 0, .int 0, .int 0])))))) := by
        refine Ef.in (md := mX4_isPiece) (L := [some (.ref 1), some (.int a1)]) rfl (Nat.le_of_ble_eq_true rfl) rfl ?_
        refine E_iload_n rfl rfl ?_
        refine E_if (t := 16) (b := true) rfl rfl ((cn_lt (rfl : (a1).toInt = (a1).toInt) (by decide : (0 : Int32).toInt = 0)).trans (decide_eq_true (by omega))) ?_
        refine E_iconst (x := 0) rfl (by decide) ?_
        exact E_iret rfl rfl
      refine E_callV (v := some (.int 0)) (As := [.ref 1, .int a1]) (r0 := []) (cs2 := (w0.set 46 (.inr (.inr (.inr (1, [.ref 47, .int 0, .int 0, .int 0, .int 0])))))) rfl rfl rfl (Nat.le_of_ble_eq_true rfl) rfl rfl e11 (by decide) rfl ?_
      refine E_if (t := 24) (b := false) rfl rfl (by decide) ?_
      refine E_iconst (x := 0) rfl (by decide) ?_
      exact E_iret rfl rfl
    refine E_callV (v := some (.int 0)) (As := [.ref 46, .ref 1, .int a1, .int a2, .int a3]) (r0 := []) (cs2 := (w0.set 46 (.inr (.inr (.inr (1, [.ref 47, .int 0, .int 0, .int 0, .int 0])))))) rfl rfl rfl (Nat.le_of_ble_eq_true rfl) rfl rfl e8 (by decide) (by simp only [List.length_set]) ?_
    exact E_iret rfl rfl, by
    refine Ef.in (md := mX6_act) (L := [some (.ref 65), some (.int a1), some (.int a2), some (.int a3)]) rfl (Nat.le_of_ble_eq_true rfl) rfl ?_
    refine E_aload_n rfl rfl ?_
    refine E_iconst (x := 0) rfl (by decide) ?_
    refine E_putfield (cs2 := ((w0.set 46 (.inr (.inr (.inr (1, [.ref 47, .int 0, .int 0, .int 0, .int 0]))))).set 65 (.inr (.inr (.inr (6, [.int 0, .int 0, .int 0, .int 0, .int 0, .int 1, .int (-1), .ref 66, .ref 67, .ref 68, .ref 69, .ref 70, .ref 71, .ref 72, .ref 73, .ref 74, .ref 75, .ref 76, .ref 77, .ref 78, .ref 79, .ref 80, .ref 81, .ref 82, .ref 83, .ref 84, .ref 85, .int 0, .int 0, .int 0, .int 0, .int 0, .ref 86, .ref 87, .ref 88, .ref 89, .int 0, .int 0, .ref 90, .ref 91, .ref 92, .ref 93, .int 0, .int 0, .int 0, .int 0, .ref 94, .int 0, .int 0])))))) rfl rfl rfl (by decide) (Nat.le_of_ble_eq_true rfl) rfl rfl rfl rfl ?_
    refine E_aload_n rfl rfl ?_
    refine E_iload_n rfl rfl ?_
    have e6 : Ev ab_Z0 1 132 [.ref 65, .int a1] ((w0.set 46 (.inr (.inr (.inr (1, [.ref 47, .int 0, .int 0, .int 0, .int 0]))))).set 65 (.inr (.inr (.inr (6, [.int 0, .int 0, .int 0, .int 0, .int 0, .int 1, .int (-1), .ref 66, .ref 67, .ref 68, .ref 69, .ref 70, .ref 71, .ref 72, .ref 73, .ref 74, .ref 75, .ref 76, .ref 77, .ref 78, .ref 79, .ref 80, .ref 81, .ref 82, .ref 83, .ref 84, .ref 85, .int 0, .int 0, .int 0, .int 0, .int 0, .ref 86, .ref 87, .ref 88, .ref 89, .int 0, .int 0, .ref 90, .ref 91, .ref 92, .ref 93, .int 0, .int 0, .int 0, .int 0, .ref 94, .int 0, .int 0]))))) (some (.int 0), ((w0.set 46 (.inr (.inr (.inr (1, [.ref 47, .int 0, .int 0, .int 0, .int 0]))))).set 65 (.inr (.inr (.inr (6, [.int 0, .int 0, .int 0, .int 0, .int 0, .int 1, .int (-1), .ref 66, .ref 67, .ref 68, .ref 69, .ref 70, .ref 71, .ref 72, .ref 73, .ref 74, .ref 75, .ref 76, .ref 77, .ref 78, .ref 79, .ref 80, .ref 81, .ref 82, .ref 83, .ref 84, .ref 85, .int 0, .int 0, .int 0, .int 0, .int 0, .ref 86, .ref 87, .ref 88, .ref 89, .int 0, .int 0, .ref 90, .ref 91, .ref 92, .ref 93, .int 0, .int 0, .int 0, .int 0, .ref 94, .int 0, .int 0])))))) := by
      refine Ef.in (md := mX6_isPiece) (L := [some (.ref 65), some (.int a1)]) rfl (Nat.le_of_ble_eq_true rfl) rfl ?_
      refine E_iload_n rfl rfl ?_
      refine E_if (t := 16) (b := true) rfl rfl ((cn_lt (rfl : (a1).toInt = (a1).toInt) (by decide : (0 : Int32).toInt = 0)).trans (decide_eq_true (by omega))) ?_
      refine E_iconst (x := 0) rfl (by decide) ?_
      exact E_iret rfl rfl
    refine E_callV (v := some (.int 0)) (As := [.ref 65, .int a1]) (r0 := []) (cs2 := ((w0.set 46 (.inr (.inr (.inr (1, [.ref 47, .int 0, .int 0, .int 0, .int 0]))))).set 65 (.inr (.inr (.inr (6, [.int 0, .int 0, .int 0, .int 0, .int 0, .int 1, .int (-1), .ref 66, .ref 67, .ref 68, .ref 69, .ref 70, .ref 71, .ref 72, .ref 73, .ref 74, .ref 75, .ref 76, .ref 77, .ref 78, .ref 79, .ref 80, .ref 81, .ref 82, .ref 83, .ref 84, .ref 85, .int 0, .int 0, .int 0, .int 0, .int 0, .ref 86, .ref 87, .ref 88, .ref 89, .int 0, .int 0, .ref 90, .ref 91, .ref 92, .ref 93, .int 0, .int 0, .int 0, .int 0, .ref 94, .int 0, .int 0])))))) rfl rfl rfl (Nat.le_of_ble_eq_true rfl) rfl rfl e6 (by decide) rfl ?_
    refine E_if (t := 22) (b := true) rfl rfl (by decide) ?_
    refine E_iconst (x := 0) rfl (by decide) ?_
    exact E_iret rfl rfl, (by simp only [List.length_set]; rfl), (by simp only [List.length_set]; rfl), ((ab_szs rfl).trans ((ab_szs rfl).trans rfl)), fun _ => rfl⟩
theorem f_act_4 (a1 a2 a3 : Int32) (ha1l : (0 : Int) ≤ a1.toInt) (ha2l : (0 : Int) ≤ a2.toInt) (ha2h : a2.toInt ≤ 2) : p1_P 5 110 5 208 [.ref 0, .int a1, .int a2, .int a3] [.ref 65, .int a1, .int a2, .int a3] :=
  ⟨0, (w0.set 46 (.inr (.inr (.inr (1, [.ref 47, .int 0, .int 0, .int 0, .int 0]))))), ((w0.set 46 (.inr (.inr (.inr (1, [.ref 47, .int 0, .int 0, .int 0, .int 0]))))).set 65 (.inr (.inr (.inr (6, [.int 0, .int 0, .int 0, .int 0, .int 0, .int 1, .int (-1), .ref 66, .ref 67, .ref 68, .ref 69, .ref 70, .ref 71, .ref 72, .ref 73, .ref 74, .ref 75, .ref 76, .ref 77, .ref 78, .ref 79, .ref 80, .ref 81, .ref 82, .ref 83, .ref 84, .ref 85, .int 0, .int 0, .int 0, .int 0, .int 0, .ref 86, .ref 87, .ref 88, .ref 89, .int 0, .int 0, .ref 90, .ref 91, .ref 92, .ref 93, .int 0, .int 0, .int 0, .int 0, .ref 94, .int 0, .int 0]))))), by
    refine Ef.in (md := mX5_act) (L := [some (.ref 0), some (.int a1), some (.int a2), some (.int a3)]) rfl (Nat.le_of_ble_eq_true rfl) rfl ?_
    refine E_aload_n rfl rfl ?_
    refine E_getfield (v := .ref 46) rfl rfl rfl (by decide) rfl ?_
    refine E_aload_n rfl rfl ?_
    refine E_getfield (v := .ref 1) rfl rfl rfl (by decide) rfl ?_
    refine E_iload_n rfl rfl ?_
    refine E_iload_n rfl rfl ?_
    refine E_iload_n rfl rfl ?_
    have e8 : Ev ab_Z0 4 8 [.ref 46, .ref 1, .int a1, .int a2, .int a3] w0 (some (.int 0), (w0.set 46 (.inr (.inr (.inr (1, [.ref 47, .int 0, .int 0, .int 0, .int 0])))))) := by
      refine Ef.in (md := mX1_answer) (L := [some (.ref 46), some (.ref 1), some (.int a1), some (.int a2), some (.int a3)]) rfl (Nat.le_of_ble_eq_true rfl) rfl ?_
      refine E_aload_n rfl rfl ?_
      refine E_iconst (x := 0) rfl (by decide) ?_
      refine E_putfield (cs2 := (w0.set 46 (.inr (.inr (.inr (1, [.ref 47, .int 0, .int 0, .int 0, .int 0])))))) rfl rfl rfl (by decide) (Nat.le_of_ble_eq_true rfl) rfl rfl rfl rfl ?_
      refine E_iload_n rfl rfl ?_
      refine E_if (t := 22) (b := false) rfl rfl ((cn_lt (rfl : (a2).toInt = (a2).toInt) (by decide : (0 : Int32).toInt = 0)).trans (decide_eq_false (by omega))) ?_
      refine E_iload_n rfl rfl ?_
      refine E_iconst (x := 3) rfl (by decide) ?_
      refine E_ic (t := 22) (b := false) rfl rfl ((cn_ge (rfl : (a2).toInt = (a2).toInt) (by decide : (3 : Int32).toInt = 3)).trans (decide_eq_false (by omega))) ?_
      refine E_aload_n rfl rfl ?_
      refine E_iload_n rfl rfl ?_
      have e11 : Ev ab_Z0 1 50 [.ref 1, .int a1] (w0.set 46 (.inr (.inr (.inr (1, [.ref 47, .int 0, .int 0, .int 0, .int 0]))))) (some (.int 0), (w0.set 46 (.inr (.inr (.inr (1, [.ref 47, .int 0, .int 0, .int 0, .int 0])))))) := by
        refine Ef.in (md := mX4_isPiece) (L := [some (.ref 1), some (.int a1)]) rfl (Nat.le_of_ble_eq_true rfl) rfl ?_
        refine E_iload_n rfl rfl ?_
        refine E_if (t := 16) (b := false) rfl rfl ((cn_lt (rfl : (a1).toInt = (a1).toInt) (by decide : (0 : Int32).toInt = 0)).trans (decide_eq_false (by omega))) ?_
        refine E_iload_n rfl rfl ?_
        refine E_aload_n rfl rfl ?_
        refine E_getfield (v := .int 0) rfl rfl rfl (by decide) rfl ?_
        refine E_ic (t := 16) (b := true) rfl rfl ((cn_ge (rfl : (a1).toInt = (a1).toInt) (by decide : (0 : Int32).toInt = 0)).trans (decide_eq_true (by omega))) ?_
        refine E_iconst (x := 0) rfl (by decide) ?_
        exact E_iret rfl rfl
      refine E_callV (v := some (.int 0)) (As := [.ref 1, .int a1]) (r0 := []) (cs2 := (w0.set 46 (.inr (.inr (.inr (1, [.ref 47, .int 0, .int 0, .int 0, .int 0])))))) rfl rfl rfl (Nat.le_of_ble_eq_true rfl) rfl rfl e11 (by decide) rfl ?_
      refine E_if (t := 24) (b := false) rfl rfl (by decide) ?_
      refine E_iconst (x := 0) rfl (by decide) ?_
      exact E_iret rfl rfl
    refine E_callV (v := some (.int 0)) (As := [.ref 46, .ref 1, .int a1, .int a2, .int a3]) (r0 := []) (cs2 := (w0.set 46 (.inr (.inr (.inr (1, [.ref 47, .int 0, .int 0, .int 0, .int 0])))))) rfl rfl rfl (Nat.le_of_ble_eq_true rfl) rfl rfl e8 (by decide) (by simp only [List.length_set]) ?_
    exact E_iret rfl rfl, by
    refine Ef.in (md := mX6_act) (L := [some (.ref 65), some (.int a1), some (.int a2), some (.int a3)]) rfl (Nat.le_of_ble_eq_true rfl) rfl ?_
    refine E_aload_n rfl rfl ?_
    refine E_iconst (x := 0) rfl (by decide) ?_
    refine E_putfield (cs2 := ((w0.set 46 (.inr (.inr (.inr (1, [.ref 47, .int 0, .int 0, .int 0, .int 0]))))).set 65 (.inr (.inr (.inr (6, [.int 0, .int 0, .int 0, .int 0, .int 0, .int 1, .int (-1), .ref 66, .ref 67, .ref 68, .ref 69, .ref 70, .ref 71, .ref 72, .ref 73, .ref 74, .ref 75, .ref 76, .ref 77, .ref 78, .ref 79, .ref 80, .ref 81, .ref 82, .ref 83, .ref 84, .ref 85, .int 0, .int 0, .int 0, .int 0, .int 0, .ref 86, .ref 87, .ref 88, .ref 89, .int 0, .int 0, .ref 90, .ref 91, .ref 92, .ref 93, .int 0, .int 0, .int 0, .int 0, .ref 94, .int 0, .int 0])))))) rfl rfl rfl (by decide) (Nat.le_of_ble_eq_true rfl) rfl rfl rfl rfl ?_
    refine E_aload_n rfl rfl ?_
    refine E_iload_n rfl rfl ?_
    have e6 : Ev ab_Z0 1 132 [.ref 65, .int a1] ((w0.set 46 (.inr (.inr (.inr (1, [.ref 47, .int 0, .int 0, .int 0, .int 0]))))).set 65 (.inr (.inr (.inr (6, [.int 0, .int 0, .int 0, .int 0, .int 0, .int 1, .int (-1), .ref 66, .ref 67, .ref 68, .ref 69, .ref 70, .ref 71, .ref 72, .ref 73, .ref 74, .ref 75, .ref 76, .ref 77, .ref 78, .ref 79, .ref 80, .ref 81, .ref 82, .ref 83, .ref 84, .ref 85, .int 0, .int 0, .int 0, .int 0, .int 0, .ref 86, .ref 87, .ref 88, .ref 89, .int 0, .int 0, .ref 90, .ref 91, .ref 92, .ref 93, .int 0, .int 0, .int 0, .int 0, .ref 94, .int 0, .int 0]))))) (some (.int 0), ((w0.set 46 (.inr (.inr (.inr (1, [.ref 47, .int 0, .int 0, .int 0, .int 0]))))).set 65 (.inr (.inr (.inr (6, [.int 0, .int 0, .int 0, .int 0, .int 0, .int 1, .int (-1), .ref 66, .ref 67, .ref 68, .ref 69, .ref 70, .ref 71, .ref 72, .ref 73, .ref 74, .ref 75, .ref 76, .ref 77, .ref 78, .ref 79, .ref 80, .ref 81, .ref 82, .ref 83, .ref 84, .ref 85, .int 0, .int 0, .int 0, .int 0, .int 0, .ref 86, .ref 87, .ref 88, .ref 89, .int 0, .int 0, .ref 90, .ref 91, .ref 92, .ref 93, .int 0, .int 0, .int 0, .int 0, .ref 94, .int 0, .int 0])))))) := by
      refine Ef.in (md := mX6_isPiece) (L := [some (.ref 65), some (.int a1)]) rfl (Nat.le_of_ble_eq_true rfl) rfl ?_
      refine E_iload_n rfl rfl ?_
      refine E_if (t := 16) (b := false) rfl rfl ((cn_lt (rfl : (a1).toInt = (a1).toInt) (by decide : (0 : Int32).toInt = 0)).trans (decide_eq_false (by omega))) ?_
      refine E_iload_n rfl rfl ?_
      refine E_aload_n rfl rfl ?_
      refine E_getfield (v := .int 0) rfl rfl rfl (by decide) rfl ?_
      refine E_ic (t := 16) (b := true) rfl rfl ((cn_ge (rfl : (a1).toInt = (a1).toInt) (by decide : (0 : Int32).toInt = 0)).trans (decide_eq_true (by omega))) ?_
      refine E_iconst (x := 0) rfl (by decide) ?_
      exact E_iret rfl rfl
    refine E_callV (v := some (.int 0)) (As := [.ref 65, .int a1]) (r0 := []) (cs2 := ((w0.set 46 (.inr (.inr (.inr (1, [.ref 47, .int 0, .int 0, .int 0, .int 0]))))).set 65 (.inr (.inr (.inr (6, [.int 0, .int 0, .int 0, .int 0, .int 0, .int 1, .int (-1), .ref 66, .ref 67, .ref 68, .ref 69, .ref 70, .ref 71, .ref 72, .ref 73, .ref 74, .ref 75, .ref 76, .ref 77, .ref 78, .ref 79, .ref 80, .ref 81, .ref 82, .ref 83, .ref 84, .ref 85, .int 0, .int 0, .int 0, .int 0, .int 0, .ref 86, .ref 87, .ref 88, .ref 89, .int 0, .int 0, .ref 90, .ref 91, .ref 92, .ref 93, .int 0, .int 0, .int 0, .int 0, .ref 94, .int 0, .int 0])))))) rfl rfl rfl (Nat.le_of_ble_eq_true rfl) rfl rfl e6 (by decide) rfl ?_
    refine E_if (t := 22) (b := true) rfl rfl (by decide) ?_
    refine E_iconst (x := 0) rfl (by decide) ?_
    exact E_iret rfl rfl, (by simp only [List.length_set]; rfl), (by simp only [List.length_set]; rfl), ((ab_szs rfl).trans ((ab_szs rfl).trans rfl)), fun _ => rfl⟩
theorem f_act_5 (a1 a2 a3 : Int32) (ha1h : a1.toInt ≤ -1) (ha2l : (3 : Int) ≤ a2.toInt) : p1_P 5 110 5 208 [.ref 0, .int a1, .int a2, .int a3] [.ref 65, .int a1, .int a2, .int a3] :=
  ⟨0, (w0.set 46 (.inr (.inr (.inr (1, [.ref 47, .int 0, .int 0, .int 0, .int 0]))))), ((w0.set 46 (.inr (.inr (.inr (1, [.ref 47, .int 0, .int 0, .int 0, .int 0]))))).set 65 (.inr (.inr (.inr (6, [.int 0, .int 0, .int 0, .int 0, .int 0, .int 1, .int (-1), .ref 66, .ref 67, .ref 68, .ref 69, .ref 70, .ref 71, .ref 72, .ref 73, .ref 74, .ref 75, .ref 76, .ref 77, .ref 78, .ref 79, .ref 80, .ref 81, .ref 82, .ref 83, .ref 84, .ref 85, .int 0, .int 0, .int 0, .int 0, .int 0, .ref 86, .ref 87, .ref 88, .ref 89, .int 0, .int 0, .ref 90, .ref 91, .ref 92, .ref 93, .int 0, .int 0, .int 0, .int 0, .ref 94, .int 0, .int 0]))))), by
    refine Ef.in (md := mX5_act) (L := [some (.ref 0), some (.int a1), some (.int a2), some (.int a3)]) rfl (Nat.le_of_ble_eq_true rfl) rfl ?_
    refine E_aload_n rfl rfl ?_
    refine E_getfield (v := .ref 46) rfl rfl rfl (by decide) rfl ?_
    refine E_aload_n rfl rfl ?_
    refine E_getfield (v := .ref 1) rfl rfl rfl (by decide) rfl ?_
    refine E_iload_n rfl rfl ?_
    refine E_iload_n rfl rfl ?_
    refine E_iload_n rfl rfl ?_
    have e8 : Ev ab_Z0 4 8 [.ref 46, .ref 1, .int a1, .int a2, .int a3] w0 (some (.int 0), (w0.set 46 (.inr (.inr (.inr (1, [.ref 47, .int 0, .int 0, .int 0, .int 0])))))) := by
      refine Ef.in (md := mX1_answer) (L := [some (.ref 46), some (.ref 1), some (.int a1), some (.int a2), some (.int a3)]) rfl (Nat.le_of_ble_eq_true rfl) rfl ?_
      refine E_aload_n rfl rfl ?_
      refine E_iconst (x := 0) rfl (by decide) ?_
      refine E_putfield (cs2 := (w0.set 46 (.inr (.inr (.inr (1, [.ref 47, .int 0, .int 0, .int 0, .int 0])))))) rfl rfl rfl (by decide) (Nat.le_of_ble_eq_true rfl) rfl rfl rfl rfl ?_
      refine E_iload_n rfl rfl ?_
      refine E_if (t := 22) (b := false) rfl rfl ((cn_lt (rfl : (a2).toInt = (a2).toInt) (by decide : (0 : Int32).toInt = 0)).trans (decide_eq_false (by omega))) ?_
      refine E_iload_n rfl rfl ?_
      refine E_iconst (x := 3) rfl (by decide) ?_
      refine E_ic (t := 22) (b := true) rfl rfl ((cn_ge (rfl : (a2).toInt = (a2).toInt) (by decide : (3 : Int32).toInt = 3)).trans (decide_eq_true (by omega))) ?_
      refine E_iconst (x := 0) rfl (by decide) ?_
      exact E_iret rfl rfl
    refine E_callV (v := some (.int 0)) (As := [.ref 46, .ref 1, .int a1, .int a2, .int a3]) (r0 := []) (cs2 := (w0.set 46 (.inr (.inr (.inr (1, [.ref 47, .int 0, .int 0, .int 0, .int 0])))))) rfl rfl rfl (Nat.le_of_ble_eq_true rfl) rfl rfl e8 (by decide) (by simp only [List.length_set]) ?_
    exact E_iret rfl rfl, by
    refine Ef.in (md := mX6_act) (L := [some (.ref 65), some (.int a1), some (.int a2), some (.int a3)]) rfl (Nat.le_of_ble_eq_true rfl) rfl ?_
    refine E_aload_n rfl rfl ?_
    refine E_iconst (x := 0) rfl (by decide) ?_
    refine E_putfield (cs2 := ((w0.set 46 (.inr (.inr (.inr (1, [.ref 47, .int 0, .int 0, .int 0, .int 0]))))).set 65 (.inr (.inr (.inr (6, [.int 0, .int 0, .int 0, .int 0, .int 0, .int 1, .int (-1), .ref 66, .ref 67, .ref 68, .ref 69, .ref 70, .ref 71, .ref 72, .ref 73, .ref 74, .ref 75, .ref 76, .ref 77, .ref 78, .ref 79, .ref 80, .ref 81, .ref 82, .ref 83, .ref 84, .ref 85, .int 0, .int 0, .int 0, .int 0, .int 0, .ref 86, .ref 87, .ref 88, .ref 89, .int 0, .int 0, .ref 90, .ref 91, .ref 92, .ref 93, .int 0, .int 0, .int 0, .int 0, .ref 94, .int 0, .int 0])))))) rfl rfl rfl (by decide) (Nat.le_of_ble_eq_true rfl) rfl rfl rfl rfl ?_
    refine E_aload_n rfl rfl ?_
    refine E_iload_n rfl rfl ?_
    have e6 : Ev ab_Z0 1 132 [.ref 65, .int a1] ((w0.set 46 (.inr (.inr (.inr (1, [.ref 47, .int 0, .int 0, .int 0, .int 0]))))).set 65 (.inr (.inr (.inr (6, [.int 0, .int 0, .int 0, .int 0, .int 0, .int 1, .int (-1), .ref 66, .ref 67, .ref 68, .ref 69, .ref 70, .ref 71, .ref 72, .ref 73, .ref 74, .ref 75, .ref 76, .ref 77, .ref 78, .ref 79, .ref 80, .ref 81, .ref 82, .ref 83, .ref 84, .ref 85, .int 0, .int 0, .int 0, .int 0, .int 0, .ref 86, .ref 87, .ref 88, .ref 89, .int 0, .int 0, .ref 90, .ref 91, .ref 92, .ref 93, .int 0, .int 0, .int 0, .int 0, .ref 94, .int 0, .int 0]))))) (some (.int 0), ((w0.set 46 (.inr (.inr (.inr (1, [.ref 47, .int 0, .int 0, .int 0, .int 0]))))).set 65 (.inr (.inr (.inr (6, [.int 0, .int 0, .int 0, .int 0, .int 0, .int 1, .int (-1), .ref 66, .ref 67, .ref 68, .ref 69, .ref 70, .ref 71, .ref 72, .ref 73, .ref 74, .ref 75, .ref 76, .ref 77, .ref 78, .ref 79, .ref 80, .ref 81, .ref 82, .ref 83, .ref 84, .ref 85, .int 0, .int 0, .int 0, .int 0, .int 0, .ref 86, .ref 87, .ref 88, .ref 89, .int 0, .int 0, .ref 90, .ref 91, .ref 92, .ref 93, .int 0, .int 0, .int 0, .int 0, .ref 94, .int 0, .int 0])))))) := by
      refine Ef.in (md := mX6_isPiece) (L := [some (.ref 65), some (.int a1)]) rfl (Nat.le_of_ble_eq_true rfl) rfl ?_
      refine E_iload_n rfl rfl ?_
      refine E_if (t := 16) (b := true) rfl rfl ((cn_lt (rfl : (a1).toInt = (a1).toInt) (by decide : (0 : Int32).toInt = 0)).trans (decide_eq_true (by omega))) ?_
      refine E_iconst (x := 0) rfl (by decide) ?_
      exact E_iret rfl rfl
    refine E_callV (v := some (.int 0)) (As := [.ref 65, .int a1]) (r0 := []) (cs2 := ((w0.set 46 (.inr (.inr (.inr (1, [.ref 47, .int 0, .int 0, .int 0, .int 0]))))).set 65 (.inr (.inr (.inr (6, [.int 0, .int 0, .int 0, .int 0, .int 0, .int 1, .int (-1), .ref 66, .ref 67, .ref 68, .ref 69, .ref 70, .ref 71, .ref 72, .ref 73, .ref 74, .ref 75, .ref 76, .ref 77, .ref 78, .ref 79, .ref 80, .ref 81, .ref 82, .ref 83, .ref 84, .ref 85, .int 0, .int 0, .int 0, .int 0, .int 0, .ref 86, .ref 87, .ref 88, .ref 89, .int 0, .int 0, .ref 90, .ref 91, .ref 92, .ref 93, .int 0, .int 0, .int 0, .int 0, .ref 94, .int 0, .int 0])))))) rfl rfl rfl (Nat.le_of_ble_eq_true rfl) rfl rfl e6 (by decide) rfl ?_
    refine E_if (t := 22) (b := true) rfl rfl (by decide) ?_
    refine E_iconst (x := 0) rfl (by decide) ?_
    exact E_iret rfl rfl, (by simp only [List.length_set]; rfl), (by simp only [List.length_set]; rfl), ((ab_szs rfl).trans ((ab_szs rfl).trans rfl)), fun _ => rfl⟩
theorem f_act_6 (a1 a2 a3 : Int32) (ha1l : (0 : Int) ≤ a1.toInt) (ha2l : (3 : Int) ≤ a2.toInt) : p1_P 5 110 5 208 [.ref 0, .int a1, .int a2, .int a3] [.ref 65, .int a1, .int a2, .int a3] :=
  ⟨0, (w0.set 46 (.inr (.inr (.inr (1, [.ref 47, .int 0, .int 0, .int 0, .int 0]))))), ((w0.set 46 (.inr (.inr (.inr (1, [.ref 47, .int 0, .int 0, .int 0, .int 0]))))).set 65 (.inr (.inr (.inr (6, [.int 0, .int 0, .int 0, .int 0, .int 0, .int 1, .int (-1), .ref 66, .ref 67, .ref 68, .ref 69, .ref 70, .ref 71, .ref 72, .ref 73, .ref 74, .ref 75, .ref 76, .ref 77, .ref 78, .ref 79, .ref 80, .ref 81, .ref 82, .ref 83, .ref 84, .ref 85, .int 0, .int 0, .int 0, .int 0, .int 0, .ref 86, .ref 87, .ref 88, .ref 89, .int 0, .int 0, .ref 90, .ref 91, .ref 92, .ref 93, .int 0, .int 0, .int 0, .int 0, .ref 94, .int 0, .int 0]))))), by
    refine Ef.in (md := mX5_act) (L := [some (.ref 0), some (.int a1), some (.int a2), some (.int a3)]) rfl (Nat.le_of_ble_eq_true rfl) rfl ?_
    refine E_aload_n rfl rfl ?_
    refine E_getfield (v := .ref 46) rfl rfl rfl (by decide) rfl ?_
    refine E_aload_n rfl rfl ?_
    refine E_getfield (v := .ref 1) rfl rfl rfl (by decide) rfl ?_
    refine E_iload_n rfl rfl ?_
    refine E_iload_n rfl rfl ?_
    refine E_iload_n rfl rfl ?_
    have e8 : Ev ab_Z0 4 8 [.ref 46, .ref 1, .int a1, .int a2, .int a3] w0 (some (.int 0), (w0.set 46 (.inr (.inr (.inr (1, [.ref 47, .int 0, .int 0, .int 0, .int 0])))))) := by
      refine Ef.in (md := mX1_answer) (L := [some (.ref 46), some (.ref 1), some (.int a1), some (.int a2), some (.int a3)]) rfl (Nat.le_of_ble_eq_true rfl) rfl ?_
      refine E_aload_n rfl rfl ?_
      refine E_iconst (x := 0) rfl (by decide) ?_
      refine E_putfield (cs2 := (w0.set 46 (.inr (.inr (.inr (1, [.ref 47, .int 0, .int 0, .int 0, .int 0])))))) rfl rfl rfl (by decide) (Nat.le_of_ble_eq_true rfl) rfl rfl rfl rfl ?_
      refine E_iload_n rfl rfl ?_
      refine E_if (t := 22) (b := false) rfl rfl ((cn_lt (rfl : (a2).toInt = (a2).toInt) (by decide : (0 : Int32).toInt = 0)).trans (decide_eq_false (by omega))) ?_
      refine E_iload_n rfl rfl ?_
      refine E_iconst (x := 3) rfl (by decide) ?_
      refine E_ic (t := 22) (b := true) rfl rfl ((cn_ge (rfl : (a2).toInt = (a2).toInt) (by decide : (3 : Int32).toInt = 3)).trans (decide_eq_true (by omega))) ?_
      refine E_iconst (x := 0) rfl (by decide) ?_
      exact E_iret rfl rfl
    refine E_callV (v := some (.int 0)) (As := [.ref 46, .ref 1, .int a1, .int a2, .int a3]) (r0 := []) (cs2 := (w0.set 46 (.inr (.inr (.inr (1, [.ref 47, .int 0, .int 0, .int 0, .int 0])))))) rfl rfl rfl (Nat.le_of_ble_eq_true rfl) rfl rfl e8 (by decide) (by simp only [List.length_set]) ?_
    exact E_iret rfl rfl, by
    refine Ef.in (md := mX6_act) (L := [some (.ref 65), some (.int a1), some (.int a2), some (.int a3)]) rfl (Nat.le_of_ble_eq_true rfl) rfl ?_
    refine E_aload_n rfl rfl ?_
    refine E_iconst (x := 0) rfl (by decide) ?_
    refine E_putfield (cs2 := ((w0.set 46 (.inr (.inr (.inr (1, [.ref 47, .int 0, .int 0, .int 0, .int 0]))))).set 65 (.inr (.inr (.inr (6, [.int 0, .int 0, .int 0, .int 0, .int 0, .int 1, .int (-1), .ref 66, .ref 67, .ref 68, .ref 69, .ref 70, .ref 71, .ref 72, .ref 73, .ref 74, .ref 75, .ref 76, .ref 77, .ref 78, .ref 79, .ref 80, .ref 81, .ref 82, .ref 83, .ref 84, .ref 85, .int 0, .int 0, .int 0, .int 0, .int 0, .ref 86, .ref 87, .ref 88, .ref 89, .int 0, .int 0, .ref 90, .ref 91, .ref 92, .ref 93, .int 0, .int 0, .int 0, .int 0, .ref 94, .int 0, .int 0])))))) rfl rfl rfl (by decide) (Nat.le_of_ble_eq_true rfl) rfl rfl rfl rfl ?_
    refine E_aload_n rfl rfl ?_
    refine E_iload_n rfl rfl ?_
    have e6 : Ev ab_Z0 1 132 [.ref 65, .int a1] ((w0.set 46 (.inr (.inr (.inr (1, [.ref 47, .int 0, .int 0, .int 0, .int 0]))))).set 65 (.inr (.inr (.inr (6, [.int 0, .int 0, .int 0, .int 0, .int 0, .int 1, .int (-1), .ref 66, .ref 67, .ref 68, .ref 69, .ref 70, .ref 71, .ref 72, .ref 73, .ref 74, .ref 75, .ref 76, .ref 77, .ref 78, .ref 79, .ref 80, .ref 81, .ref 82, .ref 83, .ref 84, .ref 85, .int 0, .int 0, .int 0, .int 0, .int 0, .ref 86, .ref 87, .ref 88, .ref 89, .int 0, .int 0, .ref 90, .ref 91, .ref 92, .ref 93, .int 0, .int 0, .int 0, .int 0, .ref 94, .int 0, .int 0]))))) (some (.int 0), ((w0.set 46 (.inr (.inr (.inr (1, [.ref 47, .int 0, .int 0, .int 0, .int 0]))))).set 65 (.inr (.inr (.inr (6, [.int 0, .int 0, .int 0, .int 0, .int 0, .int 1, .int (-1), .ref 66, .ref 67, .ref 68, .ref 69, .ref 70, .ref 71, .ref 72, .ref 73, .ref 74, .ref 75, .ref 76, .ref 77, .ref 78, .ref 79, .ref 80, .ref 81, .ref 82, .ref 83, .ref 84, .ref 85, .int 0, .int 0, .int 0, .int 0, .int 0, .ref 86, .ref 87, .ref 88, .ref 89, .int 0, .int 0, .ref 90, .ref 91, .ref 92, .ref 93, .int 0, .int 0, .int 0, .int 0, .ref 94, .int 0, .int 0])))))) := by
      refine Ef.in (md := mX6_isPiece) (L := [some (.ref 65), some (.int a1)]) rfl (Nat.le_of_ble_eq_true rfl) rfl ?_
      refine E_iload_n rfl rfl ?_
      refine E_if (t := 16) (b := false) rfl rfl ((cn_lt (rfl : (a1).toInt = (a1).toInt) (by decide : (0 : Int32).toInt = 0)).trans (decide_eq_false (by omega))) ?_
      refine E_iload_n rfl rfl ?_
      refine E_aload_n rfl rfl ?_
      refine E_getfield (v := .int 0) rfl rfl rfl (by decide) rfl ?_
      refine E_ic (t := 16) (b := true) rfl rfl ((cn_ge (rfl : (a1).toInt = (a1).toInt) (by decide : (0 : Int32).toInt = 0)).trans (decide_eq_true (by omega))) ?_
      refine E_iconst (x := 0) rfl (by decide) ?_
      exact E_iret rfl rfl
    refine E_callV (v := some (.int 0)) (As := [.ref 65, .int a1]) (r0 := []) (cs2 := ((w0.set 46 (.inr (.inr (.inr (1, [.ref 47, .int 0, .int 0, .int 0, .int 0]))))).set 65 (.inr (.inr (.inr (6, [.int 0, .int 0, .int 0, .int 0, .int 0, .int 1, .int (-1), .ref 66, .ref 67, .ref 68, .ref 69, .ref 70, .ref 71, .ref 72, .ref 73, .ref 74, .ref 75, .ref 76, .ref 77, .ref 78, .ref 79, .ref 80, .ref 81, .ref 82, .ref 83, .ref 84, .ref 85, .int 0, .int 0, .int 0, .int 0, .int 0, .ref 86, .ref 87, .ref 88, .ref 89, .int 0, .int 0, .ref 90, .ref 91, .ref 92, .ref 93, .int 0, .int 0, .int 0, .int 0, .ref 94, .int 0, .int 0])))))) rfl rfl rfl (Nat.le_of_ble_eq_true rfl) rfl rfl e6 (by decide) rfl ?_
    refine E_if (t := 22) (b := true) rfl rfl (by decide) ?_
    refine E_iconst (x := 0) rfl (by decide) ?_
    exact E_iret rfl rfl, (by simp only [List.length_set]; rfl), (by simp only [List.length_set]; rfl), ((ab_szs rfl).trans ((ab_szs rfl).trans rfl)), fun _ => rfl⟩
theorem f_act (a1 a2 a3 : Int32) : p1_P 5 110 5 208 [.ref 0, .int a1, .int a2, .int a3] [.ref 65, .int a1, .int a2, .int a3] := by
  rcases ab_ltge a2.toInt (0) with h | h
  · rcases ab_ltge a1.toInt (0) with h | h
    · exact f_act_1 a1 a2 a3 (by omega) (by omega)
    exact f_act_2 a1 a2 a3 (by omega) (by omega)
  rcases ab_ltge a2.toInt (3) with h | h
  · rcases ab_ltge a1.toInt (0) with h | h
    · exact f_act_3 a1 a2 a3 (by omega) (by omega) (by omega)
    exact f_act_4 a1 a2 a3 (by omega) (by omega) (by omega)
  rcases ab_ltge a1.toInt (0) with h | h
  · exact f_act_5 a1 a2 a3 (by omega) (by omega)
  exact f_act_6 a1 a2 a3 (by omega) (by omega)
