theorem c185_X4_hasRoomForPerson : Ev ab_Z0 1 53 [.ref 1] w0 (some (.int 1), w0) := by
  refine Ef.in (md := mX4_hasRoomForPerson) (L := [some (.ref 1)]) rfl (Nat.le_of_ble_eq_true rfl) rfl ?_
  refine E_aload_n rfl rfl ?_
  refine E_getfield (v := .int 0) rfl rfl rfl (by decide) rfl ?_
  refine E_bipush (x := 6) rfl (by decide) ?_
  refine E_ic (t := 13) (b := false) rfl rfl (by decide) ?_
  refine E_iconst (x := 1) rfl (by decide) ?_
  refine E_goto (t := 14) rfl rfl ?_
  exact E_iret rfl rfl
theorem f_person_1 (a1 a2 a3 : Int32) (ha3h : a3.toInt ≤ -1) : p1_P 3 84 2 149 [.ref 0, .int a1, .int a2, .int a3] [.ref 65, .int a1, .int a2, .int a3] :=
  ⟨(-1), (w0.set 48 (.inl [0, 1, 0, 0, 0, 0, 0, 0])), ((w0.set 48 (.inl [0, 1, 0, 0, 0, 0, 0, 0])).set 66 (.inl [0, 1, 0, 0, 0, 0, 0, 0])), by
    refine Ef.in (md := mX5_person) (L := [some (.ref 0), some (.int a1), some (.int a2), some (.int a3)]) rfl (Nat.le_of_ble_eq_true rfl) rfl ?_
    refine E_iload_n rfl rfl ?_
    have e2 : Ev ab_Z0 1 47 [.int a3] w0 (some (.int 0), w0) := by
      refine Ef.in (md := mX4_isWish) (L := [some (.int a3)]) rfl (Nat.le_of_ble_eq_true rfl) rfl ?_
      refine E_iload_n rfl rfl ?_
      refine E_if (t := 14) (b := true) rfl rfl ((cn_lt (rfl : (a3).toInt = (a3).toInt) (by decide : (0 : Int32).toInt = 0)).trans (decide_eq_true (by omega))) ?_
      refine E_iconst (x := 0) rfl (by decide) ?_
      exact E_iret rfl rfl
    refine E_callS (v := some (.int 0)) (As := [.int a3]) (r0 := []) (cs2 := w0) rfl rfl rfl (Nat.le_of_ble_eq_true rfl) rfl e2 (by decide) rfl ?_
    refine E_if (t := 13) (b := false) rfl rfl (by decide) ?_
    refine E_aload_n rfl rfl ?_
    refine E_iconst (x := 1) rfl (by decide) ?_
    refine E_callV (v := some (.int (-1))) (As := [.ref 0, .int 1]) (r0 := []) (cs2 := (w0.set 48 (.inl [0, 1, 0, 0, 0, 0, 0, 0]))) rfl rfl rfl (Nat.le_of_ble_eq_true rfl) rfl rfl c1_X5_refuse (by decide) (by simp only [List.length_set]) ?_
    exact E_iret rfl rfl, by
    refine Ef.in (md := mX6_person) (L := [some (.ref 65), some (.int a1), some (.int a2), some (.int a3)]) rfl (Nat.le_of_ble_eq_true rfl) rfl ?_
    refine E_aload_n rfl rfl ?_
    refine E_iload_n rfl rfl ?_
    refine E_iconst (x := 0) rfl (by decide) ?_
    refine E_bipush (x := 7) rfl (by decide) ?_
    have e5 : Ev ab_Z0 1 134 [.ref 65, .int a3, .int 0, .int 7] (w0.set 48 (.inl [0, 1, 0, 0, 0, 0, 0, 0])) (some (.int 0), (w0.set 48 (.inl [0, 1, 0, 0, 0, 0, 0, 0]))) := by
      refine Ef.in (md := mX6_isFrom) (L := [some (.ref 65), some (.int a3), some (.int 0), some (.int 7)]) rfl (Nat.le_of_ble_eq_true rfl) rfl ?_
      refine E_iload_n rfl rfl ?_
      refine E_iload_n rfl rfl ?_
      refine E_ic (t := 14) (b := true) rfl rfl ((cn_lt (rfl : (a3).toInt = (a3).toInt) (by decide : (0 : Int32).toInt = 0)).trans (decide_eq_true (by omega))) ?_
      refine E_iconst (x := 0) rfl (by decide) ?_
      exact E_iret rfl rfl
    refine E_callV (v := some (.int 0)) (As := [.ref 65, .int a3, .int 0, .int 7]) (r0 := []) (cs2 := (w0.set 48 (.inl [0, 1, 0, 0, 0, 0, 0, 0]))) rfl rfl rfl (Nat.le_of_ble_eq_true rfl) rfl rfl e5 (by decide) rfl ?_
    refine E_if (t := 17) (b := false) rfl rfl (by decide) ?_
    refine E_aload_n rfl rfl ?_
    refine E_iconst (x := (-1)) rfl (by decide) ?_
    refine E_callV (v := some (.int (-1))) (As := [.ref 65, .int (-1)]) (r0 := []) (cs2 := ((w0.set 48 (.inl [0, 1, 0, 0, 0, 0, 0, 0])).set 66 (.inl [0, 1, 0, 0, 0, 0, 0, 0]))) rfl rfl rfl (Nat.le_of_ble_eq_true rfl) rfl rfl c3_X6_no (by decide) (by simp only [List.length_set]) ?_
    exact E_iret rfl rfl, (by simp only [List.length_set]; rfl), (by simp only [List.length_set]; rfl), ((ab_szs rfl).trans ((ab_szs rfl).trans rfl)), fun _ => rfl⟩
theorem f_person_2 (a1 a2 a3 : Int32) (ha1h : a1.toInt ≤ -1) (ha3l : (0 : Int) ≤ a3.toInt) (ha3h : a3.toInt ≤ 7) : p1_P 3 84 2 149 [.ref 0, .int a1, .int a2, .int a3] [.ref 65, .int a1, .int a2, .int a3] :=
  ⟨(-6), (w0.set 48 (.inl [0, 0, 0, 0, 0, 0, 1, 0])), ((w0.set 48 (.inl [0, 0, 0, 0, 0, 0, 1, 0])).set 66 (.inl [0, 0, 0, 0, 0, 0, 1, 0])), by
    refine Ef.in (md := mX5_person) (L := [some (.ref 0), some (.int a1), some (.int a2), some (.int a3)]) rfl (Nat.le_of_ble_eq_true rfl) rfl ?_
    refine E_iload_n rfl rfl ?_
    have e2 : Ev ab_Z0 1 47 [.int a3] w0 (some (.int 1), w0) := by
      refine Ef.in (md := mX4_isWish) (L := [some (.int a3)]) rfl (Nat.le_of_ble_eq_true rfl) rfl ?_
      refine E_iload_n rfl rfl ?_
      refine E_if (t := 14) (b := false) rfl rfl ((cn_lt (rfl : (a3).toInt = (a3).toInt) (by decide : (0 : Int32).toInt = 0)).trans (decide_eq_false (by omega))) ?_
      refine E_iload_n rfl rfl ?_
      refine E_bipush (x := 8) rfl (by decide) ?_
      refine E_ic (t := 14) (b := false) rfl rfl ((cn_ge (rfl : (a3).toInt = (a3).toInt) (by decide : (8 : Int32).toInt = 8)).trans (decide_eq_false (by omega))) ?_
      refine E_iconst (x := 1) rfl (by decide) ?_
      refine E_goto (t := 15) rfl rfl ?_
      exact E_iret rfl rfl
    refine E_callS (v := some (.int 1)) (As := [.int a3]) (r0 := []) (cs2 := w0) rfl rfl rfl (Nat.le_of_ble_eq_true rfl) rfl e2 (by decide) rfl ?_
    refine E_if (t := 13) (b := true) rfl rfl (by decide) ?_
    refine E_iload_n rfl rfl ?_
    refine E_iconst (x := 0) rfl (by decide) ?_
    refine E_bipush (x := 99) rfl (by decide) ?_
    have e17 : Ev ab_Z0 1 115 [.int a1, .int 0, .int 99] w0 (some (.int 0), w0) := by
      refine Ef.in (md := mX5_isFrom) (L := [some (.int a1), some (.int 0), some (.int 99)]) rfl (Nat.le_of_ble_eq_true rfl) rfl ?_
      refine E_iload_n rfl rfl ?_
      refine E_iload_n rfl rfl ?_
      refine E_ic (t := 14) (b := true) rfl rfl ((cn_lt (rfl : (a1).toInt = (a1).toInt) (by decide : (0 : Int32).toInt = 0)).trans (decide_eq_true (by omega))) ?_
      refine E_iconst (x := 0) rfl (by decide) ?_
      exact E_iret rfl rfl
    refine E_callS (v := some (.int 0)) (As := [.int a1, .int 0, .int 99]) (r0 := []) (cs2 := w0) rfl rfl rfl (Nat.le_of_ble_eq_true rfl) rfl e17 (by decide) rfl ?_
    refine E_if (t := 33) (b := true) rfl rfl (by decide) ?_
    refine E_aload_n rfl rfl ?_
    refine E_bipush (x := 6) rfl (by decide) ?_
    refine E_callV (v := some (.int (-6))) (As := [.ref 0, .int 6]) (r0 := []) (cs2 := (w0.set 48 (.inl [0, 0, 0, 0, 0, 0, 1, 0]))) rfl rfl rfl (Nat.le_of_ble_eq_true rfl) rfl rfl c7_X5_refuse (by decide) (by simp only [List.length_set]) ?_
    exact E_iret rfl rfl, by
    refine Ef.in (md := mX6_person) (L := [some (.ref 65), some (.int a1), some (.int a2), some (.int a3)]) rfl (Nat.le_of_ble_eq_true rfl) rfl ?_
    refine E_aload_n rfl rfl ?_
    refine E_iload_n rfl rfl ?_
    refine E_iconst (x := 0) rfl (by decide) ?_
    refine E_bipush (x := 7) rfl (by decide) ?_
    have e5 : Ev ab_Z0 1 134 [.ref 65, .int a3, .int 0, .int 7] (w0.set 48 (.inl [0, 0, 0, 0, 0, 0, 1, 0])) (some (.int 1), (w0.set 48 (.inl [0, 0, 0, 0, 0, 0, 1, 0]))) := by
      refine Ef.in (md := mX6_isFrom) (L := [some (.ref 65), some (.int a3), some (.int 0), some (.int 7)]) rfl (Nat.le_of_ble_eq_true rfl) rfl ?_
      refine E_iload_n rfl rfl ?_
      refine E_iload_n rfl rfl ?_
      refine E_ic (t := 14) (b := false) rfl rfl ((cn_lt (rfl : (a3).toInt = (a3).toInt) (by decide : (0 : Int32).toInt = 0)).trans (decide_eq_false (by omega))) ?_
      refine E_iload_n rfl rfl ?_
      refine E_iload_n rfl rfl ?_
      refine E_ic (t := 14) (b := false) rfl rfl ((cn_gt (rfl : (a3).toInt = (a3).toInt) (by decide : (7 : Int32).toInt = 7)).trans (decide_eq_false (by omega))) ?_
      refine E_iconst (x := 1) rfl (by decide) ?_
      refine E_goto (t := 15) rfl rfl ?_
      exact E_iret rfl rfl
    refine E_callV (v := some (.int 1)) (As := [.ref 65, .int a3, .int 0, .int 7]) (r0 := []) (cs2 := (w0.set 48 (.inl [0, 0, 0, 0, 0, 0, 1, 0]))) rfl rfl rfl (Nat.le_of_ble_eq_true rfl) rfl rfl e5 (by decide) rfl ?_
    refine E_if (t := 17) (b := true) rfl rfl (by decide) ?_
    refine E_aload_n rfl rfl ?_
    refine E_iload_n rfl rfl ?_
    refine E_iconst (x := 0) rfl (by decide) ?_
    refine E_bipush (x := 99) rfl (by decide) ?_
    have e22 : Ev ab_Z0 1 134 [.ref 65, .int a1, .int 0, .int 99] (w0.set 48 (.inl [0, 0, 0, 0, 0, 0, 1, 0])) (some (.int 0), (w0.set 48 (.inl [0, 0, 0, 0, 0, 0, 1, 0]))) := by
      refine Ef.in (md := mX6_isFrom) (L := [some (.ref 65), some (.int a1), some (.int 0), some (.int 99)]) rfl (Nat.le_of_ble_eq_true rfl) rfl ?_
      refine E_iload_n rfl rfl ?_
      refine E_iload_n rfl rfl ?_
      refine E_ic (t := 14) (b := true) rfl rfl ((cn_lt (rfl : (a1).toInt = (a1).toInt) (by decide : (0 : Int32).toInt = 0)).trans (decide_eq_true (by omega))) ?_
      refine E_iconst (x := 0) rfl (by decide) ?_
      exact E_iret rfl rfl
    refine E_callV (v := some (.int 0)) (As := [.ref 65, .int a1, .int 0, .int 99]) (r0 := []) (cs2 := (w0.set 48 (.inl [0, 0, 0, 0, 0, 0, 1, 0]))) rfl rfl rfl (Nat.le_of_ble_eq_true rfl) rfl rfl e22 (by decide) rfl ?_
    refine E_if (t := 39) (b := true) rfl rfl (by decide) ?_
    refine E_aload_n rfl rfl ?_
    refine E_bipush (x := (-6)) rfl (by decide) ?_
    refine E_callV (v := some (.int (-6))) (As := [.ref 65, .int (-6)]) (r0 := []) (cs2 := ((w0.set 48 (.inl [0, 0, 0, 0, 0, 0, 1, 0])).set 66 (.inl [0, 0, 0, 0, 0, 0, 1, 0]))) rfl rfl rfl (Nat.le_of_ble_eq_true rfl) rfl rfl c9_X6_no (by decide) (by simp only [List.length_set]) ?_
    exact E_iret rfl rfl, (by simp only [List.length_set]; rfl), (by simp only [List.length_set]; rfl), ((ab_szs rfl).trans ((ab_szs rfl).trans rfl)), fun _ => rfl⟩
theorem f_person_3 (a1 a2 a3 : Int32) (ha1l : (0 : Int) ≤ a1.toInt) (ha1h : a1.toInt ≤ 99) (ha2h : a2.toInt ≤ -1) (ha3l : (0 : Int) ≤ a3.toInt) (ha3h : a3.toInt ≤ 7) : p1_P 3 84 2 149 [.ref 0, .int a1, .int a2, .int a3] [.ref 65, .int a1, .int a2, .int a3] :=
  ⟨(-6), (w0.set 48 (.inl [0, 0, 0, 0, 0, 0, 1, 0])), ((w0.set 48 (.inl [0, 0, 0, 0, 0, 0, 1, 0])).set 66 (.inl [0, 0, 0, 0, 0, 0, 1, 0])), by
    refine Ef.in (md := mX5_person) (L := [some (.ref 0), some (.int a1), some (.int a2), some (.int a3)]) rfl (Nat.le_of_ble_eq_true rfl) rfl ?_
    refine E_iload_n rfl rfl ?_
    have e2 : Ev ab_Z0 1 47 [.int a3] w0 (some (.int 1), w0) := by
      refine Ef.in (md := mX4_isWish) (L := [some (.int a3)]) rfl (Nat.le_of_ble_eq_true rfl) rfl ?_
      refine E_iload_n rfl rfl ?_
      refine E_if (t := 14) (b := false) rfl rfl ((cn_lt (rfl : (a3).toInt = (a3).toInt) (by decide : (0 : Int32).toInt = 0)).trans (decide_eq_false (by omega))) ?_
      refine E_iload_n rfl rfl ?_
      refine E_bipush (x := 8) rfl (by decide) ?_
      refine E_ic (t := 14) (b := false) rfl rfl ((cn_ge (rfl : (a3).toInt = (a3).toInt) (by decide : (8 : Int32).toInt = 8)).trans (decide_eq_false (by omega))) ?_
      refine E_iconst (x := 1) rfl (by decide) ?_
      refine E_goto (t := 15) rfl rfl ?_
      exact E_iret rfl rfl
    refine E_callS (v := some (.int 1)) (As := [.int a3]) (r0 := []) (cs2 := w0) rfl rfl rfl (Nat.le_of_ble_eq_true rfl) rfl e2 (by decide) rfl ?_
    refine E_if (t := 13) (b := true) rfl rfl (by decide) ?_
    refine E_iload_n rfl rfl ?_
    refine E_iconst (x := 0) rfl (by decide) ?_
    refine E_bipush (x := 99) rfl (by decide) ?_
    have e17 : Ev ab_Z0 1 115 [.int a1, .int 0, .int 99] w0 (some (.int 1), w0) := by
      refine Ef.in (md := mX5_isFrom) (L := [some (.int a1), some (.int 0), some (.int 99)]) rfl (Nat.le_of_ble_eq_true rfl) rfl ?_
      refine E_iload_n rfl rfl ?_
      refine E_iload_n rfl rfl ?_
      refine E_ic (t := 14) (b := false) rfl rfl ((cn_lt (rfl : (a1).toInt = (a1).toInt) (by decide : (0 : Int32).toInt = 0)).trans (decide_eq_false (by omega))) ?_
      refine E_iload_n rfl rfl ?_
      refine E_iload_n rfl rfl ?_
      refine E_ic (t := 14) (b := false) rfl rfl ((cn_gt (rfl : (a1).toInt = (a1).toInt) (by decide : (99 : Int32).toInt = 99)).trans (decide_eq_false (by omega))) ?_
      refine E_iconst (x := 1) rfl (by decide) ?_
      refine E_goto (t := 15) rfl rfl ?_
      exact E_iret rfl rfl
    refine E_callS (v := some (.int 1)) (As := [.int a1, .int 0, .int 99]) (r0 := []) (cs2 := w0) rfl rfl rfl (Nat.le_of_ble_eq_true rfl) rfl e17 (by decide) rfl ?_
    refine E_if (t := 33) (b := false) rfl rfl (by decide) ?_
    refine E_iload_n rfl rfl ?_
    refine E_iconst (x := 0) rfl (by decide) ?_
    refine E_bipush (x := 9) rfl (by decide) ?_
    have e33 : Ev ab_Z0 1 115 [.int a2, .int 0, .int 9] w0 (some (.int 0), w0) := by
      refine Ef.in (md := mX5_isFrom) (L := [some (.int a2), some (.int 0), some (.int 9)]) rfl (Nat.le_of_ble_eq_true rfl) rfl ?_
      refine E_iload_n rfl rfl ?_
      refine E_iload_n rfl rfl ?_
      refine E_ic (t := 14) (b := true) rfl rfl ((cn_lt (rfl : (a2).toInt = (a2).toInt) (by decide : (0 : Int32).toInt = 0)).trans (decide_eq_true (by omega))) ?_
      refine E_iconst (x := 0) rfl (by decide) ?_
      exact E_iret rfl rfl
    refine E_callS (v := some (.int 0)) (As := [.int a2, .int 0, .int 9]) (r0 := []) (cs2 := w0) rfl rfl rfl (Nat.le_of_ble_eq_true rfl) rfl e33 (by decide) rfl ?_
    refine E_if (t := 40) (b := false) rfl rfl (by decide) ?_
    refine E_aload_n rfl rfl ?_
    refine E_bipush (x := 6) rfl (by decide) ?_
    refine E_callV (v := some (.int (-6))) (As := [.ref 0, .int 6]) (r0 := []) (cs2 := (w0.set 48 (.inl [0, 0, 0, 0, 0, 0, 1, 0]))) rfl rfl rfl (Nat.le_of_ble_eq_true rfl) rfl rfl c7_X5_refuse (by decide) (by simp only [List.length_set]) ?_
    exact E_iret rfl rfl, by
    refine Ef.in (md := mX6_person) (L := [some (.ref 65), some (.int a1), some (.int a2), some (.int a3)]) rfl (Nat.le_of_ble_eq_true rfl) rfl ?_
    refine E_aload_n rfl rfl ?_
    refine E_iload_n rfl rfl ?_
    refine E_iconst (x := 0) rfl (by decide) ?_
    refine E_bipush (x := 7) rfl (by decide) ?_
    have e5 : Ev ab_Z0 1 134 [.ref 65, .int a3, .int 0, .int 7] (w0.set 48 (.inl [0, 0, 0, 0, 0, 0, 1, 0])) (some (.int 1), (w0.set 48 (.inl [0, 0, 0, 0, 0, 0, 1, 0]))) := by
      refine Ef.in (md := mX6_isFrom) (L := [some (.ref 65), some (.int a3), some (.int 0), some (.int 7)]) rfl (Nat.le_of_ble_eq_true rfl) rfl ?_
      refine E_iload_n rfl rfl ?_
      refine E_iload_n rfl rfl ?_
      refine E_ic (t := 14) (b := false) rfl rfl ((cn_lt (rfl : (a3).toInt = (a3).toInt) (by decide : (0 : Int32).toInt = 0)).trans (decide_eq_false (by omega))) ?_
      refine E_iload_n rfl rfl ?_
      refine E_iload_n rfl rfl ?_
      refine E_ic (t := 14) (b := false) rfl rfl ((cn_gt (rfl : (a3).toInt = (a3).toInt) (by decide : (7 : Int32).toInt = 7)).trans (decide_eq_false (by omega))) ?_
      refine E_iconst (x := 1) rfl (by decide) ?_
      refine E_goto (t := 15) rfl rfl ?_
      exact E_iret rfl rfl
    refine E_callV (v := some (.int 1)) (As := [.ref 65, .int a3, .int 0, .int 7]) (r0 := []) (cs2 := (w0.set 48 (.inl [0, 0, 0, 0, 0, 0, 1, 0]))) rfl rfl rfl (Nat.le_of_ble_eq_true rfl) rfl rfl e5 (by decide) rfl ?_
    refine E_if (t := 17) (b := true) rfl rfl (by decide) ?_
    refine E_aload_n rfl rfl ?_
    refine E_iload_n rfl rfl ?_
    refine E_iconst (x := 0) rfl (by decide) ?_
    refine E_bipush (x := 99) rfl (by decide) ?_
    have e22 : Ev ab_Z0 1 134 [.ref 65, .int a1, .int 0, .int 99] (w0.set 48 (.inl [0, 0, 0, 0, 0, 0, 1, 0])) (some (.int 1), (w0.set 48 (.inl [0, 0, 0, 0, 0, 0, 1, 0]))) := by
      refine Ef.in (md := mX6_isFrom) (L := [some (.ref 65), some (.int a1), some (.int 0), some (.int 99)]) rfl (Nat.le_of_ble_eq_true rfl) rfl ?_
      refine E_iload_n rfl rfl ?_
      refine E_iload_n rfl rfl ?_
      refine E_ic (t := 14) (b := false) rfl rfl ((cn_lt (rfl : (a1).toInt = (a1).toInt) (by decide : (0 : Int32).toInt = 0)).trans (decide_eq_false (by omega))) ?_
      refine E_iload_n rfl rfl ?_
      refine E_iload_n rfl rfl ?_
      refine E_ic (t := 14) (b := false) rfl rfl ((cn_gt (rfl : (a1).toInt = (a1).toInt) (by decide : (99 : Int32).toInt = 99)).trans (decide_eq_false (by omega))) ?_
      refine E_iconst (x := 1) rfl (by decide) ?_
      refine E_goto (t := 15) rfl rfl ?_
      exact E_iret rfl rfl
    refine E_callV (v := some (.int 1)) (As := [.ref 65, .int a1, .int 0, .int 99]) (r0 := []) (cs2 := (w0.set 48 (.inl [0, 0, 0, 0, 0, 0, 1, 0]))) rfl rfl rfl (Nat.le_of_ble_eq_true rfl) rfl rfl e22 (by decide) rfl ?_
    refine E_if (t := 39) (b := false) rfl rfl (by decide) ?_
    refine E_aload_n rfl rfl ?_
    refine E_iload_n rfl rfl ?_
    refine E_iconst (x := 0) rfl (by decide) ?_
    refine E_bipush (x := 9) rfl (by decide) ?_
    have e39 : Ev ab_Z0 1 134 [.ref 65, .int a2, .int 0, .int 9] (w0.set 48 (.inl [0, 0, 0, 0, 0, 0, 1, 0])) (some (.int 0), (w0.set 48 (.inl [0, 0, 0, 0, 0, 0, 1, 0]))) := by
      refine Ef.in (md := mX6_isFrom) (L := [some (.ref 65), some (.int a2), some (.int 0), some (.int 9)]) rfl (Nat.le_of_ble_eq_true rfl) rfl ?_
      refine E_iload_n rfl rfl ?_
      refine E_iload_n rfl rfl ?_
      refine E_ic (t := 14) (b := true) rfl rfl ((cn_lt (rfl : (a2).toInt = (a2).toInt) (by decide : (0 : Int32).toInt = 0)).trans (decide_eq_true (by omega))) ?_
      refine E_iconst (x := 0) rfl (by decide) ?_
      exact E_iret rfl rfl
    refine E_callV (v := some (.int 0)) (As := [.ref 65, .int a2, .int 0, .int 9]) (r0 := []) (cs2 := (w0.set 48 (.inl [0, 0, 0, 0, 0, 0, 1, 0]))) rfl rfl rfl (Nat.le_of_ble_eq_true rfl) rfl rfl e39 (by decide) rfl ?_
    refine E_if (t := 46) (b := false) rfl rfl (by decide) ?_
    refine E_aload_n rfl rfl ?_
    refine E_bipush (x := (-6)) rfl (by decide) ?_
    refine E_callV (v := some (.int (-6))) (As := [.ref 65, .int (-6)]) (r0 := []) (cs2 := ((w0.set 48 (.inl [0, 0, 0, 0, 0, 0, 1, 0])).set 66 (.inl [0, 0, 0, 0, 0, 0, 1, 0]))) rfl rfl rfl (Nat.le_of_ble_eq_true rfl) rfl rfl c9_X6_no (by decide) (by simp only [List.length_set]) ?_
    exact E_iret rfl rfl, (by simp only [List.length_set]; rfl), (by simp only [List.length_set]; rfl), ((ab_szs rfl).trans ((ab_szs rfl).trans rfl)), fun _ => rfl⟩
theorem f_person_4 (a1 a2 a3 : Int32) (ha1l : (0 : Int) ≤ a1.toInt) (ha1h : a1.toInt ≤ 99) (ha2l : (0 : Int) ≤ a2.toInt) (ha2h : a2.toInt ≤ 9) (ha3l : (0 : Int) ≤ a3.toInt) (ha3h : a3.toInt ≤ 7) : p1_P 3 84 2 149 [.ref 0, .int a1, .int a2, .int a3] [.ref 65, .int a1, .int a2, .int a3] :=
  ⟨0, (((((w0.set 6 (.inl [a1, 0, 0, 0, 0, 0])).set 7 (.inl [a2, 0, 0, 0, 0, 0])).set 8 (.inl [a3, 0, 0, 0, 0, 0])).set 9 (.inl [0, 0, 0, 0, 0, 0])).set 1 (.inr (.inr (.inr (4, [.ref 2, .ref 3, .ref 4, .ref 5, .ref 6, .ref 7, .ref 8, .ref 9, .ref 10, .int 0, .int 1, .int 0, .int 0, .int 0, .int 1]))))), ((((((((((w0.set 6 (.inl [a1, 0, 0, 0, 0, 0])).set 7 (.inl [a2, 0, 0, 0, 0, 0])).set 8 (.inl [a3, 0, 0, 0, 0, 0])).set 9 (.inl [0, 0, 0, 0, 0, 0])).set 1 (.inr (.inr (.inr (4, [.ref 2, .ref 3, .ref 4, .ref 5, .ref 6, .ref 7, .ref 8, .ref 9, .ref 10, .int 0, .int 1, .int 0, .int 0, .int 0, .int 1]))))).set 71 (.inl [a1, 0, 0, 0, 0, 0])).set 72 (.inl [a2, 0, 0, 0, 0, 0])).set 73 (.inl [a3, 0, 0, 0, 0, 0])).set 74 (.inl [0, 0, 0, 0, 0, 0])).set 65 (.inr (.inr (.inr (6, [.int 0, .int 1, .int 0, .int 0, .int 0, .int 1, .int (-1), .ref 66, .ref 67, .ref 68, .ref 69, .ref 70, .ref 71, .ref 72, .ref 73, .ref 74, .ref 75, .ref 76, .ref 77, .ref 78, .ref 79, .ref 80, .ref 81, .ref 82, .ref 83, .ref 84, .ref 85, .int 0, .int 0, .int 0, .int 0, .int 0, .ref 86, .ref 87, .ref 88, .ref 89, .int 0, .int 0, .ref 90, .ref 91, .ref 92, .ref 93, .int 0, .int 0, .int 0, .int 0, .ref 94, .int 0, .int 0]))))), by
    refine Ef.in (md := mX5_person) (L := [some (.ref 0), some (.int a1), some (.int a2), some (.int a3)]) rfl (Nat.le_of_ble_eq_true rfl) rfl ?_
    refine E_iload_n rfl rfl ?_
    have e2 : Ev ab_Z0 1 47 [.int a3] w0 (some (.int 1), w0) := by
      refine Ef.in (md := mX4_isWish) (L := [some (.int a3)]) rfl (Nat.le_of_ble_eq_true rfl) rfl ?_
      refine E_iload_n rfl rfl ?_
      refine E_if (t := 14) (b := false) rfl rfl ((cn_lt (rfl : (a3).toInt = (a3).toInt) (by decide : (0 : Int32).toInt = 0)).trans (decide_eq_false (by omega))) ?_
      refine E_iload_n rfl rfl ?_
      refine E_bipush (x := 8) rfl (by decide) ?_
      refine E_ic (t := 14) (b := false) rfl rfl ((cn_ge (rfl : (a3).toInt = (a3).toInt) (by decide : (8 : Int32).toInt = 8)).trans (decide_eq_false (by omega))) ?_
      refine E_iconst (x := 1) rfl (by decide) ?_
      refine E_goto (t := 15) rfl rfl ?_
      exact E_iret rfl rfl
    refine E_callS (v := some (.int 1)) (As := [.int a3]) (r0 := []) (cs2 := w0) rfl rfl rfl (Nat.le_of_ble_eq_true rfl) rfl e2 (by decide) rfl ?_
    refine E_if (t := 13) (b := true) rfl rfl (by decide) ?_
    refine E_iload_n rfl rfl ?_
    refine E_iconst (x := 0) rfl (by decide) ?_
    refine E_bipush (x := 99) rfl (by decide) ?_
    have e17 : Ev ab_Z0 1 115 [.int a1, .int 0, .int 99] w0 (some (.int 1), w0) := by
      refine Ef.in (md := mX5_isFrom) (L := [some (.int a1), some (.int 0), some (.int 99)]) rfl (Nat.le_of_ble_eq_true rfl) rfl ?_
      refine E_iload_n rfl rfl ?_
      refine E_iload_n rfl rfl ?_
      refine E_ic (t := 14) (b := false) rfl rfl ((cn_lt (rfl : (a1).toInt = (a1).toInt) (by decide : (0 : Int32).toInt = 0)).trans (decide_eq_false (by omega))) ?_
      refine E_iload_n rfl rfl ?_
      refine E_iload_n rfl rfl ?_
      refine E_ic (t := 14) (b := false) rfl rfl ((cn_gt (rfl : (a1).toInt = (a1).toInt) (by decide : (99 : Int32).toInt = 99)).trans (decide_eq_false (by omega))) ?_
      refine E_iconst (x := 1) rfl (by decide) ?_
      refine E_goto (t := 15) rfl rfl ?_
      exact E_iret rfl rfl
    refine E_callS (v := some (.int 1)) (As := [.int a1, .int 0, .int 99]) (r0 := []) (cs2 := w0) rfl rfl rfl (Nat.le_of_ble_eq_true rfl) rfl e17 (by decide) rfl ?_
    refine E_if (t := 33) (b := false) rfl rfl (by decide) ?_
    refine E_iload_n rfl rfl ?_
    refine E_iconst (x := 0) rfl (by decide) ?_
    refine E_bipush (x := 9) rfl (by decide) ?_
    have e33 : Ev ab_Z0 1 115 [.int a2, .int 0, .int 9] w0 (some (.int 1), w0) := by
      refine Ef.in (md := mX5_isFrom) (L := [some (.int a2), some (.int 0), some (.int 9)]) rfl (Nat.le_of_ble_eq_true rfl) rfl ?_
      refine E_iload_n rfl rfl ?_
      refine E_iload_n rfl rfl ?_
      refine E_ic (t := 14) (b := false) rfl rfl ((cn_lt (rfl : (a2).toInt = (a2).toInt) (by decide : (0 : Int32).toInt = 0)).trans (decide_eq_false (by omega))) ?_
      refine E_iload_n rfl rfl ?_
      refine E_iload_n rfl rfl ?_
      refine E_ic (t := 14) (b := false) rfl rfl ((cn_gt (rfl : (a2).toInt = (a2).toInt) (by decide : (9 : Int32).toInt = 9)).trans (decide_eq_false (by omega))) ?_
      refine E_iconst (x := 1) rfl (by decide) ?_
      refine E_goto (t := 15) rfl rfl ?_
      exact E_iret rfl rfl
    refine E_callS (v := some (.int 1)) (As := [.int a2, .int 0, .int 9]) (r0 := []) (cs2 := w0) rfl rfl rfl (Nat.le_of_ble_eq_true rfl) rfl e33 (by decide) rfl ?_
    refine E_if (t := 40) (b := true) rfl rfl (by decide) ?_
    refine E_aload_n rfl rfl ?_
    refine E_getfield (v := .ref 1) rfl rfl rfl (by decide) rfl ?_
    refine E_callV (v := some (.int 1)) (As := [.ref 1]) (r0 := []) (cs2 := w0) rfl rfl rfl (Nat.le_of_ble_eq_true rfl) rfl rfl c185_X4_hasRoomForPerson (by decide) rfl ?_
    refine E_if (t := 57) (b := true) rfl rfl (by decide) ?_
    refine E_aload_n rfl rfl ?_
    refine E_getfield (v := .ref 1) rfl rfl rfl (by decide) rfl ?_
    refine E_iload_n rfl rfl ?_
    refine E_iload_n rfl rfl ?_
    refine E_iload_n rfl rfl ?_
    have e55 : Ev ab_Z0 2 57 [.ref 1, .int a1, .int a2, .int a3] w0 (some (.int 0), (((((w0.set 6 (.inl [a1, 0, 0, 0, 0, 0])).set 7 (.inl [a2, 0, 0, 0, 0, 0])).set 8 (.inl [a3, 0, 0, 0, 0, 0])).set 9 (.inl [0, 0, 0, 0, 0, 0])).set 1 (.inr (.inr (.inr (4, [.ref 2, .ref 3, .ref 4, .ref 5, .ref 6, .ref 7, .ref 8, .ref 9, .ref 10, .int 0, .int 1, .int 0, .int 0, .int 0, .int 1])))))) := by
      refine Ef.in (md := mX4_addPerson) (L := [some (.ref 1), some (.int a1), some (.int a2), some (.int a3), none]) rfl (Nat.le_of_ble_eq_true rfl) rfl ?_
      refine E_aload_n rfl rfl ?_
      refine E_callV (v := some (.int 1)) (As := [.ref 1]) (r0 := []) (cs2 := w0) rfl rfl rfl (Nat.le_of_ble_eq_true rfl) rfl rfl c185_X4_hasRoomForPerson (by decide) rfl ?_
      refine E_if (t := 9) (b := true) rfl rfl (by decide) ?_
      refine E_aload_n rfl rfl ?_
      refine E_getfield (v := .int 0) rfl rfl rfl (by decide) rfl ?_
      refine E_istore (L2 := [some (.ref 1), some (.int a1), some (.int a2), some (.int a3), some (.int 0)]) rfl rfl ?_
      refine E_aload_n rfl rfl ?_
      refine E_getfield (v := .ref 6) rfl rfl rfl (by decide) rfl ?_
      refine E_iload rfl rfl ?_
      refine E_iload_n rfl rfl ?_
      refine E_iastore (j := 0) (cs2 := (w0.set 6 (.inl [a1, 0, 0, 0, 0, 0]))) rfl rfl (by decide) (by decide) (Nat.le_of_ble_eq_true rfl) rfl ?_
      refine E_aload_n rfl rfl ?_
      refine E_getfield (v := .ref 7) rfl rfl rfl (by decide) rfl ?_
      refine E_iload rfl rfl ?_
      refine E_iload_n rfl rfl ?_
      refine E_iastore (j := 0) (cs2 := ((w0.set 6 (.inl [a1, 0, 0, 0, 0, 0])).set 7 (.inl [a2, 0, 0, 0, 0, 0]))) rfl rfl (by decide) (by decide) (Nat.le_of_ble_eq_true rfl) rfl ?_
      refine E_aload_n rfl rfl ?_
      refine E_getfield (v := .ref 8) rfl rfl rfl (by decide) rfl ?_
      refine E_iload rfl rfl ?_
      refine E_iload_n rfl rfl ?_
      refine E_iastore (j := 0) (cs2 := (((w0.set 6 (.inl [a1, 0, 0, 0, 0, 0])).set 7 (.inl [a2, 0, 0, 0, 0, 0])).set 8 (.inl [a3, 0, 0, 0, 0, 0]))) rfl rfl (by decide) (by decide) (Nat.le_of_ble_eq_true rfl) rfl ?_
      refine E_aload_n rfl rfl ?_
      refine E_getfield (v := .ref 9) rfl rfl rfl (by decide) rfl ?_
      refine E_iload rfl rfl ?_
      refine E_iconst (x := 0) rfl (by decide) ?_
      refine E_iastore (j := 0) (cs2 := ((((w0.set 6 (.inl [a1, 0, 0, 0, 0, 0])).set 7 (.inl [a2, 0, 0, 0, 0, 0])).set 8 (.inl [a3, 0, 0, 0, 0, 0])).set 9 (.inl [0, 0, 0, 0, 0, 0]))) rfl rfl (by decide) (by decide) (Nat.le_of_ble_eq_true rfl) rfl ?_
      refine E_aload_n rfl rfl ?_
      refine E_dup rfl rfl ?_
      refine E_getfield (v := .int 0) rfl rfl rfl (by decide) rfl ?_
      refine E_iconst (x := 1) rfl (by decide) ?_
      refine E_iadd (z := 1) rfl (by decide) ?_
      refine E_putfield (cs2 := (((((w0.set 6 (.inl [a1, 0, 0, 0, 0, 0])).set 7 (.inl [a2, 0, 0, 0, 0, 0])).set 8 (.inl [a3, 0, 0, 0, 0, 0])).set 9 (.inl [0, 0, 0, 0, 0, 0])).set 1 (.inr (.inr (.inr (4, [.ref 2, .ref 3, .ref 4, .ref 5, .ref 6, .ref 7, .ref 8, .ref 9, .ref 10, .int 0, .int 1, .int 0, .int 0, .int 0, .int 1])))))) rfl rfl rfl (by decide) (Nat.le_of_ble_eq_true rfl) rfl rfl rfl rfl ?_
      refine E_iload rfl rfl ?_
      exact E_iret rfl rfl
    refine E_callV (v := some (.int 0)) (As := [.ref 1, .int a1, .int a2, .int a3]) (r0 := []) (cs2 := (((((w0.set 6 (.inl [a1, 0, 0, 0, 0, 0])).set 7 (.inl [a2, 0, 0, 0, 0, 0])).set 8 (.inl [a3, 0, 0, 0, 0, 0])).set 9 (.inl [0, 0, 0, 0, 0, 0])).set 1 (.inr (.inr (.inr (4, [.ref 2, .ref 3, .ref 4, .ref 5, .ref 6, .ref 7, .ref 8, .ref 9, .ref 10, .int 0, .int 1, .int 0, .int 0, .int 0, .int 1])))))) rfl rfl rfl (Nat.le_of_ble_eq_true rfl) rfl rfl e55 (by decide) (by simp only [List.length_set]) ?_
    exact E_iret rfl rfl, by
    refine Ef.in (md := mX6_person) (L := [some (.ref 65), some (.int a1), some (.int a2), some (.int a3)]) rfl (Nat.le_of_ble_eq_true rfl) rfl ?_
    refine E_aload_n rfl rfl ?_
    refine E_iload_n rfl rfl ?_
    refine E_iconst (x := 0) rfl (by decide) ?_
    refine E_bipush (x := 7) rfl (by decide) ?_
    have e5 : Ev ab_Z0 1 134 [.ref 65, .int a3, .int 0, .int 7] (((((w0.set 6 (.inl [a1, 0, 0, 0, 0, 0])).set 7 (.inl [a2, 0, 0, 0, 0, 0])).set 8 (.inl [a3, 0, 0, 0, 0, 0])).set 9 (.inl [0, 0, 0, 0, 0, 0])).set 1 (.inr (.inr (.inr (4, [.ref 2, .ref 3, .ref 4, .ref 5, .ref 6, .ref 7, .ref 8, .ref 9, .ref 10, .int 0, .int 1, .int 0, .int 0, .int 0, .int 1]))))) (some (.int 1), (((((w0.set 6 (.inl [a1, 0, 0, 0, 0, 0])).set 7 (.inl [a2, 0, 0, 0, 0, 0])).set 8 (.inl [a3, 0, 0, 0, 0, 0])).set 9 (.inl [0, 0, 0, 0, 0, 0])).set 1 (.inr (.inr (.inr (4, [.ref 2, .ref 3, .ref 4, .ref 5, .ref 6, .ref 7, .ref 8, .ref 9, .ref 10, .int 0, .int 1, .int 0, .int 0, .int 0, .int 1])))))) := by
      refine Ef.in (md := mX6_isFrom) (L := [some (.ref 65), some (.int a3), some (.int 0), some (.int 7)]) rfl (Nat.le_of_ble_eq_true rfl) rfl ?_
      refine E_iload_n rfl rfl ?_
      refine E_iload_n rfl rfl ?_
      refine E_ic (t := 14) (b := false) rfl rfl ((cn_lt (rfl : (a3).toInt = (a3).toInt) (by decide : (0 : Int32).toInt = 0)).trans (decide_eq_false (by omega))) ?_
      refine E_iload_n rfl rfl ?_
      refine E_iload_n rfl rfl ?_
      refine E_ic (t := 14) (b := false) rfl rfl ((cn_gt (rfl : (a3).toInt = (a3).toInt) (by decide : (7 : Int32).toInt = 7)).trans (decide_eq_false (by omega))) ?_
      refine E_iconst (x := 1) rfl (by decide) ?_
      refine E_goto (t := 15) rfl rfl ?_
      exact E_iret rfl rfl
    refine E_callV (v := some (.int 1)) (As := [.ref 65, .int a3, .int 0, .int 7]) (r0 := []) (cs2 := (((((w0.set 6 (.inl [a1, 0, 0, 0, 0, 0])).set 7 (.inl [a2, 0, 0, 0, 0, 0])).set 8 (.inl [a3, 0, 0, 0, 0, 0])).set 9 (.inl [0, 0, 0, 0, 0, 0])).set 1 (.inr (.inr (.inr (4, [.ref 2, .ref 3, .ref 4, .ref 5, .ref 6, .ref 7, .ref 8, .ref 9, .ref 10, .int 0, .int 1, .int 0, .int 0, .int 0, .int 1])))))) rfl rfl rfl (Nat.le_of_ble_eq_true rfl) rfl rfl e5 (by decide) rfl ?_
    refine E_if (t := 17) (b := true) rfl rfl (by decide) ?_
    refine E_aload_n rfl rfl ?_
    refine E_iload_n rfl rfl ?_
    refine E_iconst (x := 0) rfl (by decide) ?_
    refine E_bipush (x := 99) rfl (by decide) ?_
    have e22 : Ev ab_Z0 1 134 [.ref 65, .int a1, .int 0, .int 99] (((((w0.set 6 (.inl [a1, 0, 0, 0, 0, 0])).set 7 (.inl [a2, 0, 0, 0, 0, 0])).set 8 (.inl [a3, 0, 0, 0, 0, 0])).set 9 (.inl [0, 0, 0, 0, 0, 0])).set 1 (.inr (.inr (.inr (4, [.ref 2, .ref 3, .ref 4, .ref 5, .ref 6, .ref 7, .ref 8, .ref 9, .ref 10, .int 0, .int 1, .int 0, .int 0, .int 0, .int 1]))))) (some (.int 1), (((((w0.set 6 (.inl [a1, 0, 0, 0, 0, 0])).set 7 (.inl [a2, 0, 0, 0, 0, 0])).set 8 (.inl [a3, 0, 0, 0, 0, 0])).set 9 (.inl [0, 0, 0, 0, 0, 0])).set 1 (.inr (.inr (.inr (4, [.ref 2, .ref 3, .ref 4, .ref 5, .ref 6, .ref 7, .ref 8, .ref 9, .ref 10, .int 0, .int 1, .int 0, .int 0, .int 0, .int 1])))))) := by
      refine Ef.in (md := mX6_isFrom) (L := [some (.ref 65), some (.int a1), some (.int 0), some (.int 99)]) rfl (Nat.le_of_ble_eq_true rfl) rfl ?_
      refine E_iload_n rfl rfl ?_
      refine E_iload_n rfl rfl ?_
      refine E_ic (t := 14) (b := false) rfl rfl ((cn_lt (rfl : (a1).toInt = (a1).toInt) (by decide : (0 : Int32).toInt = 0)).trans (decide_eq_false (by omega))) ?_
      refine E_iload_n rfl rfl ?_
      refine E_iload_n rfl rfl ?_
      refine E_ic (t := 14) (b := false) rfl rfl ((cn_gt (rfl : (a1).toInt = (a1).toInt) (by decide : (99 : Int32).toInt = 99)).trans (decide_eq_false (by omega))) ?_
      refine E_iconst (x := 1) rfl (by decide) ?_
      refine E_goto (t := 15) rfl rfl ?_
      exact E_iret rfl rfl
    refine E_callV (v := some (.int 1)) (As := [.ref 65, .int a1, .int 0, .int 99]) (r0 := []) (cs2 := (((((w0.set 6 (.inl [a1, 0, 0, 0, 0, 0])).set 7 (.inl [a2, 0, 0, 0, 0, 0])).set 8 (.inl [a3, 0, 0, 0, 0, 0])).set 9 (.inl [0, 0, 0, 0, 0, 0])).set 1 (.inr (.inr (.inr (4, [.ref 2, .ref 3, .ref 4, .ref 5, .ref 6, .ref 7, .ref 8, .ref 9, .ref 10, .int 0, .int 1, .int 0, .int 0, .int 0, .int 1])))))) rfl rfl rfl (Nat.le_of_ble_eq_true rfl) rfl rfl e22 (by decide) rfl ?_
    refine E_if (t := 39) (b := false) rfl rfl (by decide) ?_
    refine E_aload_n rfl rfl ?_
    refine E_iload_n rfl rfl ?_
    refine E_iconst (x := 0) rfl (by decide) ?_
    refine E_bipush (x := 9) rfl (by decide) ?_
    have e39 : Ev ab_Z0 1 134 [.ref 65, .int a2, .int 0, .int 9] (((((w0.set 6 (.inl [a1, 0, 0, 0, 0, 0])).set 7 (.inl [a2, 0, 0, 0, 0, 0])).set 8 (.inl [a3, 0, 0, 0, 0, 0])).set 9 (.inl [0, 0, 0, 0, 0, 0])).set 1 (.inr (.inr (.inr (4, [.ref 2, .ref 3, .ref 4, .ref 5, .ref 6, .ref 7, .ref 8, .ref 9, .ref 10, .int 0, .int 1, .int 0, .int 0, .int 0, .int 1]))))) (some (.int 1), (((((w0.set 6 (.inl [a1, 0, 0, 0, 0, 0])).set 7 (.inl [a2, 0, 0, 0, 0, 0])).set 8 (.inl [a3, 0, 0, 0, 0, 0])).set 9 (.inl [0, 0, 0, 0, 0, 0])).set 1 (.inr (.inr (.inr (4, [.ref 2, .ref 3, .ref 4, .ref 5, .ref 6, .ref 7, .ref 8, .ref 9, .ref 10, .int 0, .int 1, .int 0, .int 0, .int 0, .int 1])))))) := by
      refine Ef.in (md := mX6_isFrom) (L := [some (.ref 65), some (.int a2), some (.int 0), some (.int 9)]) rfl (Nat.le_of_ble_eq_true rfl) rfl ?_
      refine E_iload_n rfl rfl ?_
      refine E_iload_n rfl rfl ?_
      refine E_ic (t := 14) (b := false) rfl rfl ((cn_lt (rfl : (a2).toInt = (a2).toInt) (by decide : (0 : Int32).toInt = 0)).trans (decide_eq_false (by omega))) ?_
      refine E_iload_n rfl rfl ?_
      refine E_iload_n rfl rfl ?_
      refine E_ic (t := 14) (b := false) rfl rfl ((cn_gt (rfl : (a2).toInt = (a2).toInt) (by decide : (9 : Int32).toInt = 9)).trans (decide_eq_false (by omega))) ?_
      refine E_iconst (x := 1) rfl (by decide) ?_
      refine E_goto (t := 15) rfl rfl ?_
      exact E_iret rfl rfl
    refine E_callV (v := some (.int 1)) (As := [.ref 65, .int a2, .int 0, .int 9]) (r0 := []) (cs2 := (((((w0.set 6 (.inl [a1, 0, 0, 0, 0, 0])).set 7 (.inl [a2, 0, 0, 0, 0, 0])).set 8 (.inl [a3, 0, 0, 0, 0, 0])).set 9 (.inl [0, 0, 0, 0, 0, 0])).set 1 (.inr (.inr (.inr (4, [.ref 2, .ref 3, .ref 4, .ref 5, .ref 6, .ref 7, .ref 8, .ref 9, .ref 10, .int 0, .int 1, .int 0, .int 0, .int 0, .int 1])))))) rfl rfl rfl (Nat.le_of_ble_eq_true rfl) rfl rfl e39 (by decide) rfl ?_
    refine E_if (t := 46) (b := true) rfl rfl (by decide) ?_
    refine E_aload_n rfl rfl ?_
    refine E_getfield (v := .int 0) rfl rfl rfl (by decide) rfl ?_
    refine E_bipush (x := 6) rfl (by decide) ?_
    refine E_ic (t := 64) (b := true) rfl rfl (by decide) ?_
    refine E_aload_n rfl rfl ?_
    refine E_iload_n rfl rfl ?_
    refine E_iload_n rfl rfl ?_
    refine E_iload_n rfl rfl ?_
    have e60 : Ev ab_Z0 1 147 [.ref 65, .int a1, .int a2, .int a3] (((((w0.set 6 (.inl [a1, 0, 0, 0, 0, 0])).set 7 (.inl [a2, 0, 0, 0, 0, 0])).set 8 (.inl [a3, 0, 0, 0, 0, 0])).set 9 (.inl [0, 0, 0, 0, 0, 0])).set 1 (.inr (.inr (.inr (4, [.ref 2, .ref 3, .ref 4, .ref 5, .ref 6, .ref 7, .ref 8, .ref 9, .ref 10, .int 0, .int 1, .int 0, .int 0, .int 0, .int 1]))))) (some (.int 0), ((((((((((w0.set 6 (.inl [a1, 0, 0, 0, 0, 0])).set 7 (.inl [a2, 0, 0, 0, 0, 0])).set 8 (.inl [a3, 0, 0, 0, 0, 0])).set 9 (.inl [0, 0, 0, 0, 0, 0])).set 1 (.inr (.inr (.inr (4, [.ref 2, .ref 3, .ref 4, .ref 5, .ref 6, .ref 7, .ref 8, .ref 9, .ref 10, .int 0, .int 1, .int 0, .int 0, .int 0, .int 1]))))).set 71 (.inl [a1, 0, 0, 0, 0, 0])).set 72 (.inl [a2, 0, 0, 0, 0, 0])).set 73 (.inl [a3, 0, 0, 0, 0, 0])).set 74 (.inl [0, 0, 0, 0, 0, 0])).set 65 (.inr (.inr (.inr (6, [.int 0, .int 1, .int 0, .int 0, .int 0, .int 1, .int (-1), .ref 66, .ref 67, .ref 68, .ref 69, .ref 70, .ref 71, .ref 72, .ref 73, .ref 74, .ref 75, .ref 76, .ref 77, .ref 78, .ref 79, .ref 80, .ref 81, .ref 82, .ref 83, .ref 84, .ref 85, .int 0, .int 0, .int 0, .int 0, .int 0, .ref 86, .ref 87, .ref 88, .ref 89, .int 0, .int 0, .ref 90, .ref 91, .ref 92, .ref 93, .int 0, .int 0, .int 0, .int 0, .ref 94, .int 0, .int 0])))))) := by
      refine Ef.in (md := mX6_addsPerson) (L := [some (.ref 65), some (.int a1), some (.int a2), some (.int a3)]) rfl (Nat.le_of_ble_eq_true rfl) rfl ?_
      refine E_aload_n rfl rfl ?_
      refine E_getfield (v := .ref 71) rfl rfl rfl (by decide) rfl ?_
      refine E_aload_n rfl rfl ?_
      refine E_getfield (v := .int 0) rfl rfl rfl (by decide) rfl ?_
      refine E_iload_n rfl rfl ?_
      refine E_iastore (j := 0) (cs2 := ((((((w0.set 6 (.inl [a1, 0, 0, 0, 0, 0])).set 7 (.inl [a2, 0, 0, 0, 0, 0])).set 8 (.inl [a3, 0, 0, 0, 0, 0])).set 9 (.inl [0, 0, 0, 0, 0, 0])).set 1 (.inr (.inr (.inr (4, [.ref 2, .ref 3, .ref 4, .ref 5, .ref 6, .ref 7, .ref 8, .ref 9, .ref 10, .int 0, .int 1, .int 0, .int 0, .int 0, .int 1]))))).set 71 (.inl [a1, 0, 0, 0, 0, 0]))) rfl rfl (by decide) (by decide) (Nat.le_of_ble_eq_true rfl) rfl ?_
      refine E_aload_n rfl rfl ?_
      refine E_getfield (v := .ref 72) rfl rfl rfl (by decide) rfl ?_
      refine E_aload_n rfl rfl ?_
      refine E_getfield (v := .int 0) rfl rfl rfl (by decide) rfl ?_
      refine E_iload_n rfl rfl ?_
      refine E_iastore (j := 0) (cs2 := (((((((w0.set 6 (.inl [a1, 0, 0, 0, 0, 0])).set 7 (.inl [a2, 0, 0, 0, 0, 0])).set 8 (.inl [a3, 0, 0, 0, 0, 0])).set 9 (.inl [0, 0, 0, 0, 0, 0])).set 1 (.inr (.inr (.inr (4, [.ref 2, .ref 3, .ref 4, .ref 5, .ref 6, .ref 7, .ref 8, .ref 9, .ref 10, .int 0, .int 1, .int 0, .int 0, .int 0, .int 1]))))).set 71 (.inl [a1, 0, 0, 0, 0, 0])).set 72 (.inl [a2, 0, 0, 0, 0, 0]))) rfl rfl (by decide) (by decide) (Nat.le_of_ble_eq_true rfl) rfl ?_
      refine E_aload_n rfl rfl ?_
      refine E_getfield (v := .ref 73) rfl rfl rfl (by decide) rfl ?_
      refine E_aload_n rfl rfl ?_
      refine E_getfield (v := .int 0) rfl rfl rfl (by decide) rfl ?_
      refine E_iload_n rfl rfl ?_
      refine E_iastore (j := 0) (cs2 := ((((((((w0.set 6 (.inl [a1, 0, 0, 0, 0, 0])).set 7 (.inl [a2, 0, 0, 0, 0, 0])).set 8 (.inl [a3, 0, 0, 0, 0, 0])).set 9 (.inl [0, 0, 0, 0, 0, 0])).set 1 (.inr (.inr (.inr (4, [.ref 2, .ref 3, .ref 4, .ref 5, .ref 6, .ref 7, .ref 8, .ref 9, .ref 10, .int 0, .int 1, .int 0, .int 0, .int 0, .int 1]))))).set 71 (.inl [a1, 0, 0, 0, 0, 0])).set 72 (.inl [a2, 0, 0, 0, 0, 0])).set 73 (.inl [a3, 0, 0, 0, 0, 0]))) rfl rfl (by decide) (by decide) (Nat.le_of_ble_eq_true rfl) rfl ?_
      refine E_aload_n rfl rfl ?_
      refine E_getfield (v := .ref 74) rfl rfl rfl (by decide) rfl ?_
      refine E_aload_n rfl rfl ?_
      refine E_getfield (v := .int 0) rfl rfl rfl (by decide) rfl ?_
      refine E_iconst (x := 0) rfl (by decide) ?_
      refine E_iastore (j := 0) (cs2 := (((((((((w0.set 6 (.inl [a1, 0, 0, 0, 0, 0])).set 7 (.inl [a2, 0, 0, 0, 0, 0])).set 8 (.inl [a3, 0, 0, 0, 0, 0])).set 9 (.inl [0, 0, 0, 0, 0, 0])).set 1 (.inr (.inr (.inr (4, [.ref 2, .ref 3, .ref 4, .ref 5, .ref 6, .ref 7, .ref 8, .ref 9, .ref 10, .int 0, .int 1, .int 0, .int 0, .int 0, .int 1]))))).set 71 (.inl [a1, 0, 0, 0, 0, 0])).set 72 (.inl [a2, 0, 0, 0, 0, 0])).set 73 (.inl [a3, 0, 0, 0, 0, 0])).set 74 (.inl [0, 0, 0, 0, 0, 0]))) rfl rfl (by decide) (by decide) (Nat.le_of_ble_eq_true rfl) rfl ?_
      refine E_aload_n rfl rfl ?_
      refine E_dup rfl rfl ?_
      refine E_getfield (v := .int 0) rfl rfl rfl (by decide) rfl ?_
      refine E_dup_x1 rfl ⟨rfl, rfl⟩ ?_
      refine E_iconst (x := 1) rfl (by decide) ?_
      refine E_iadd (z := 1) rfl (by decide) ?_
      refine E_putfield (cs2 := ((((((((((w0.set 6 (.inl [a1, 0, 0, 0, 0, 0])).set 7 (.inl [a2, 0, 0, 0, 0, 0])).set 8 (.inl [a3, 0, 0, 0, 0, 0])).set 9 (.inl [0, 0, 0, 0, 0, 0])).set 1 (.inr (.inr (.inr (4, [.ref 2, .ref 3, .ref 4, .ref 5, .ref 6, .ref 7, .ref 8, .ref 9, .ref 10, .int 0, .int 1, .int 0, .int 0, .int 0, .int 1]))))).set 71 (.inl [a1, 0, 0, 0, 0, 0])).set 72 (.inl [a2, 0, 0, 0, 0, 0])).set 73 (.inl [a3, 0, 0, 0, 0, 0])).set 74 (.inl [0, 0, 0, 0, 0, 0])).set 65 (.inr (.inr (.inr (6, [.int 0, .int 1, .int 0, .int 0, .int 0, .int 1, .int (-1), .ref 66, .ref 67, .ref 68, .ref 69, .ref 70, .ref 71, .ref 72, .ref 73, .ref 74, .ref 75, .ref 76, .ref 77, .ref 78, .ref 79, .ref 80, .ref 81, .ref 82, .ref 83, .ref 84, .ref 85, .int 0, .int 0, .int 0, .int 0, .int 0, .ref 86, .ref 87, .ref 88, .ref 89, .int 0, .int 0, .ref 90, .ref 91, .ref 92, .ref 93, .int 0, .int 0, .int 0, .int 0, .ref 94, .int 0, .int 0])))))) rfl rfl rfl (by decide) (Nat.le_of_ble_eq_true rfl) rfl rfl rfl rfl ?_
      exact E_iret rfl rfl
    refine E_callV (v := some (.int 0)) (As := [.ref 65, .int a1, .int a2, .int a3]) (r0 := []) (cs2 := ((((((((((w0.set 6 (.inl [a1, 0, 0, 0, 0, 0])).set 7 (.inl [a2, 0, 0, 0, 0, 0])).set 8 (.inl [a3, 0, 0, 0, 0, 0])).set 9 (.inl [0, 0, 0, 0, 0, 0])).set 1 (.inr (.inr (.inr (4, [.ref 2, .ref 3, .ref 4, .ref 5, .ref 6, .ref 7, .ref 8, .ref 9, .ref 10, .int 0, .int 1, .int 0, .int 0, .int 0, .int 1]))))).set 71 (.inl [a1, 0, 0, 0, 0, 0])).set 72 (.inl [a2, 0, 0, 0, 0, 0])).set 73 (.inl [a3, 0, 0, 0, 0, 0])).set 74 (.inl [0, 0, 0, 0, 0, 0])).set 65 (.inr (.inr (.inr (6, [.int 0, .int 1, .int 0, .int 0, .int 0, .int 1, .int (-1), .ref 66, .ref 67, .ref 68, .ref 69, .ref 70, .ref 71, .ref 72, .ref 73, .ref 74, .ref 75, .ref 76, .ref 77, .ref 78, .ref 79, .ref 80, .ref 81, .ref 82, .ref 83, .ref 84, .ref 85, .int 0, .int 0, .int 0, .int 0, .int 0, .ref 86, .ref 87, .ref 88, .ref 89, .int 0, .int 0, .ref 90, .ref 91, .ref 92, .ref 93, .int 0, .int 0, .int 0, .int 0, .ref 94, .int 0, .int 0])))))) rfl rfl rfl (Nat.le_of_ble_eq_true rfl) rfl rfl e60 (by decide) (by simp only [List.length_set]) ?_
    exact E_iret rfl rfl, (by simp only [List.length_set]; rfl), (by simp only [List.length_set]; rfl), ((ab_szs rfl).trans ((ab_szs rfl).trans ((ab_szs rfl).trans ((ab_szs rfl).trans ((ab_szs rfl).trans ((ab_szs rfl).trans ((ab_szs rfl).trans ((ab_szs rfl).trans ((ab_szs rfl).trans ((ab_szs rfl).trans rfl)))))))))), fun _ => rfl⟩
theorem f_person_5 (a1 a2 a3 : Int32) (ha1l : (0 : Int) ≤ a1.toInt) (ha1h : a1.toInt ≤ 99) (ha2l : (10 : Int) ≤ a2.toInt) (ha3l : (0 : Int) ≤ a3.toInt) (ha3h : a3.toInt ≤ 7) : p1_P 3 84 2 149 [.ref 0, .int a1, .int a2, .int a3] [.ref 65, .int a1, .int a2, .int a3] :=
  ⟨(-6), (w0.set 48 (.inl [0, 0, 0, 0, 0, 0, 1, 0])), ((w0.set 48 (.inl [0, 0, 0, 0, 0, 0, 1, 0])).set 66 (.inl [0, 0, 0, 0, 0, 0, 1, 0])), by
    refine Ef.in (md := mX5_person) (L := [some (.ref 0), some (.int a1), some (.int a2), some (.int a3)]) rfl (Nat.le_of_ble_eq_true rfl) rfl ?_
    refine E_iload_n rfl rfl ?_
    have e2 : Ev ab_Z0 1 47 [.int a3] w0 (some (.int 1), w0) := by
      refine Ef.in (md := mX4_isWish) (L := [some (.int a3)]) rfl (Nat.le_of_ble_eq_true rfl) rfl ?_
      refine E_iload_n rfl rfl ?_
      refine E_if (t := 14) (b := false) rfl rfl ((cn_lt (rfl : (a3).toInt = (a3).toInt) (by decide : (0 : Int32).toInt = 0)).trans (decide_eq_false (by omega))) ?_
      refine E_iload_n rfl rfl ?_
      refine E_bipush (x := 8) rfl (by decide) ?_
      refine E_ic (t := 14) (b := false) rfl rfl ((cn_ge (rfl : (a3).toInt = (a3).toInt) (by decide : (8 : Int32).toInt = 8)).trans (decide_eq_false (by omega))) ?_
      refine E_iconst (x := 1) rfl (by decide) ?_
      refine E_goto (t := 15) rfl rfl ?_
      exact E_iret rfl rfl
    refine E_callS (v := some (.int 1)) (As := [.int a3]) (r0 := []) (cs2 := w0) rfl rfl rfl (Nat.le_of_ble_eq_true rfl) rfl e2 (by decide) rfl ?_
    refine E_if (t := 13) (b := true) rfl rfl (by decide) ?_
    refine E_iload_n rfl rfl ?_
    refine E_iconst (x := 0) rfl (by decide) ?_
    refine E_bipush (x := 99) rfl (by decide) ?_
    have e17 : Ev ab_Z0 1 115 [.int a1, .int 0, .int 99] w0 (some (.int 1), w0) := by
      refine Ef.in (md := mX5_isFrom) (L := [some (.int a1), some (.int 0), some (.int 99)]) rfl (Nat.le_of_ble_eq_true rfl) rfl ?_
      refine E_iload_n rfl rfl ?_
      refine E_iload_n rfl rfl ?_
      refine E_ic (t := 14) (b := false) rfl rfl ((cn_lt (rfl : (a1).toInt = (a1).toInt) (by decide : (0 : Int32).toInt = 0)).trans (decide_eq_false (by omega))) ?_
      refine E_iload_n rfl rfl ?_
      refine E_iload_n rfl rfl ?_
      refine E_ic (t := 14) (b := false) rfl rfl ((cn_gt (rfl : (a1).toInt = (a1).toInt) (by decide : (99 : Int32).toInt = 99)).trans (decide_eq_false (by omega))) ?_
      refine E_iconst (x := 1) rfl (by decide) ?_
      refine E_goto (t := 15) rfl rfl ?_
      exact E_iret rfl rfl
    refine E_callS (v := some (.int 1)) (As := [.int a1, .int 0, .int 99]) (r0 := []) (cs2 := w0) rfl rfl rfl (Nat.le_of_ble_eq_true rfl) rfl e17 (by decide) rfl ?_
    refine E_if (t := 33) (b := false) rfl rfl (by decide) ?_
    refine E_iload_n rfl rfl ?_
    refine E_iconst (x := 0) rfl (by decide) ?_
    refine E_bipush (x := 9) rfl (by decide) ?_
    have e33 : Ev ab_Z0 1 115 [.int a2, .int 0, .int 9] w0 (some (.int 0), w0) := by
      refine Ef.in (md := mX5_isFrom) (L := [some (.int a2), some (.int 0), some (.int 9)]) rfl (Nat.le_of_ble_eq_true rfl) rfl ?_
      refine E_iload_n rfl rfl ?_
      refine E_iload_n rfl rfl ?_
      refine E_ic (t := 14) (b := false) rfl rfl ((cn_lt (rfl : (a2).toInt = (a2).toInt) (by decide : (0 : Int32).toInt = 0)).trans (decide_eq_false (by omega))) ?_
      refine E_iload_n rfl rfl ?_
      refine E_iload_n rfl rfl ?_
      refine E_ic (t := 14) (b := true) rfl rfl ((cn_gt (rfl : (a2).toInt = (a2).toInt) (by decide : (9 : Int32).toInt = 9)).trans (decide_eq_true (by omega))) ?_
      refine E_iconst (x := 0) rfl (by decide) ?_
      exact E_iret rfl rfl
    refine E_callS (v := some (.int 0)) (As := [.int a2, .int 0, .int 9]) (r0 := []) (cs2 := w0) rfl rfl rfl (Nat.le_of_ble_eq_true rfl) rfl e33 (by decide) rfl ?_
    refine E_if (t := 40) (b := false) rfl rfl (by decide) ?_
    refine E_aload_n rfl rfl ?_
    refine E_bipush (x := 6) rfl (by decide) ?_
    refine E_callV (v := some (.int (-6))) (As := [.ref 0, .int 6]) (r0 := []) (cs2 := (w0.set 48 (.inl [0, 0, 0, 0, 0, 0, 1, 0]))) rfl rfl rfl (Nat.le_of_ble_eq_true rfl) rfl rfl c7_X5_refuse (by decide) (by simp only [List.length_set]) ?_
    exact E_iret rfl rfl, by
    refine Ef.in (md := mX6_person) (L := [some (.ref 65), some (.int a1), some (.int a2), some (.int a3)]) rfl (Nat.le_of_ble_eq_true rfl) rfl ?_
    refine E_aload_n rfl rfl ?_
    refine E_iload_n rfl rfl ?_
    refine E_iconst (x := 0) rfl (by decide) ?_
    refine E_bipush (x := 7) rfl (by decide) ?_
    have e5 : Ev ab_Z0 1 134 [.ref 65, .int a3, .int 0, .int 7] (w0.set 48 (.inl [0, 0, 0, 0, 0, 0, 1, 0])) (some (.int 1), (w0.set 48 (.inl [0, 0, 0, 0, 0, 0, 1, 0]))) := by
      refine Ef.in (md := mX6_isFrom) (L := [some (.ref 65), some (.int a3), some (.int 0), some (.int 7)]) rfl (Nat.le_of_ble_eq_true rfl) rfl ?_
      refine E_iload_n rfl rfl ?_
      refine E_iload_n rfl rfl ?_
      refine E_ic (t := 14) (b := false) rfl rfl ((cn_lt (rfl : (a3).toInt = (a3).toInt) (by decide : (0 : Int32).toInt = 0)).trans (decide_eq_false (by omega))) ?_
      refine E_iload_n rfl rfl ?_
      refine E_iload_n rfl rfl ?_
      refine E_ic (t := 14) (b := false) rfl rfl ((cn_gt (rfl : (a3).toInt = (a3).toInt) (by decide : (7 : Int32).toInt = 7)).trans (decide_eq_false (by omega))) ?_
      refine E_iconst (x := 1) rfl (by decide) ?_
      refine E_goto (t := 15) rfl rfl ?_
      exact E_iret rfl rfl
    refine E_callV (v := some (.int 1)) (As := [.ref 65, .int a3, .int 0, .int 7]) (r0 := []) (cs2 := (w0.set 48 (.inl [0, 0, 0, 0, 0, 0, 1, 0]))) rfl rfl rfl (Nat.le_of_ble_eq_true rfl) rfl rfl e5 (by decide) rfl ?_
    refine E_if (t := 17) (b := true) rfl rfl (by decide) ?_
    refine E_aload_n rfl rfl ?_
    refine E_iload_n rfl rfl ?_
    refine E_iconst (x := 0) rfl (by decide) ?_
    refine E_bipush (x := 99) rfl (by decide) ?_
    have e22 : Ev ab_Z0 1 134 [.ref 65, .int a1, .int 0, .int 99] (w0.set 48 (.inl [0, 0, 0, 0, 0, 0, 1, 0])) (some (.int 1), (w0.set 48 (.inl [0, 0, 0, 0, 0, 0, 1, 0]))) := by
      refine Ef.in (md := mX6_isFrom) (L := [some (.ref 65), some (.int a1), some (.int 0), some (.int 99)]) rfl (Nat.le_of_ble_eq_true rfl) rfl ?_
      refine E_iload_n rfl rfl ?_
      refine E_iload_n rfl rfl ?_
      refine E_ic (t := 14) (b := false) rfl rfl ((cn_lt (rfl : (a1).toInt = (a1).toInt) (by decide : (0 : Int32).toInt = 0)).trans (decide_eq_false (by omega))) ?_
      refine E_iload_n rfl rfl ?_
      refine E_iload_n rfl rfl ?_
      refine E_ic (t := 14) (b := false) rfl rfl ((cn_gt (rfl : (a1).toInt = (a1).toInt) (by decide : (99 : Int32).toInt = 99)).trans (decide_eq_false (by omega))) ?_
      refine E_iconst (x := 1) rfl (by decide) ?_
      refine E_goto (t := 15) rfl rfl ?_
      exact E_iret rfl rfl
    refine E_callV (v := some (.int 1)) (As := [.ref 65, .int a1, .int 0, .int 99]) (r0 := []) (cs2 := (w0.set 48 (.inl [0, 0, 0, 0, 0, 0, 1, 0]))) rfl rfl rfl (Nat.le_of_ble_eq_true rfl) rfl rfl e22 (by decide) rfl ?_
    refine E_if (t := 39) (b := false) rfl rfl (by decide) ?_
    refine E_aload_n rfl rfl ?_
    refine E_iload_n rfl rfl ?_
    refine E_iconst (x := 0) rfl (by decide) ?_
    refine E_bipush (x := 9) rfl (by decide) ?_
    have e39 : Ev ab_Z0 1 134 [.ref 65, .int a2, .int 0, .int 9] (w0.set 48 (.inl [0, 0, 0, 0, 0, 0, 1, 0])) (some (.int 0), (w0.set 48 (.inl [0, 0, 0, 0, 0, 0, 1, 0]))) := by
      refine Ef.in (md := mX6_isFrom) (L := [some (.ref 65), some (.int a2), some (.int 0), some (.int 9)]) rfl (Nat.le_of_ble_eq_true rfl) rfl ?_
      refine E_iload_n rfl rfl ?_
      refine E_iload_n rfl rfl ?_
      refine E_ic (t := 14) (b := false) rfl rfl ((cn_lt (rfl : (a2).toInt = (a2).toInt) (by decide : (0 : Int32).toInt = 0)).trans (decide_eq_false (by omega))) ?_
      refine E_iload_n rfl rfl ?_
      refine E_iload_n rfl rfl ?_
      refine E_ic (t := 14) (b := true) rfl rfl ((cn_gt (rfl : (a2).toInt = (a2).toInt) (by decide : (9 : Int32).toInt = 9)).trans (decide_eq_true (by omega))) ?_
      refine E_iconst (x := 0) rfl (by decide) ?_
      exact E_iret rfl rfl
    refine E_callV (v := some (.int 0)) (As := [.ref 65, .int a2, .int 0, .int 9]) (r0 := []) (cs2 := (w0.set 48 (.inl [0, 0, 0, 0, 0, 0, 1, 0]))) rfl rfl rfl (Nat.le_of_ble_eq_true rfl) rfl rfl e39 (by decide) rfl ?_
    refine E_if (t := 46) (b := false) rfl rfl (by decide) ?_
    refine E_aload_n rfl rfl ?_
    refine E_bipush (x := (-6)) rfl (by decide) ?_
    refine E_callV (v := some (.int (-6))) (As := [.ref 65, .int (-6)]) (r0 := []) (cs2 := ((w0.set 48 (.inl [0, 0, 0, 0, 0, 0, 1, 0])).set 66 (.inl [0, 0, 0, 0, 0, 0, 1, 0]))) rfl rfl rfl (Nat.le_of_ble_eq_true rfl) rfl rfl c9_X6_no (by decide) (by simp only [List.length_set]) ?_
    exact E_iret rfl rfl, (by simp only [List.length_set]; rfl), (by simp only [List.length_set]; rfl), ((ab_szs rfl).trans ((ab_szs rfl).trans rfl)), fun _ => rfl⟩
theorem f_person_6 (a1 a2 a3 : Int32) (ha1l : (100 : Int) ≤ a1.toInt) (ha3l : (0 : Int) ≤ a3.toInt) (ha3h : a3.toInt ≤ 7) : p1_P 3 84 2 149 [.ref 0, .int a1, .int a2, .int a3] [.ref 65, .int a1, .int a2, .int a3] :=
  ⟨(-6), (w0.set 48 (.inl [0, 0, 0, 0, 0, 0, 1, 0])), ((w0.set 48 (.inl [0, 0, 0, 0, 0, 0, 1, 0])).set 66 (.inl [0, 0, 0, 0, 0, 0, 1, 0])), by
    refine Ef.in (md := mX5_person) (L := [some (.ref 0), some (.int a1), some (.int a2), some (.int a3)]) rfl (Nat.le_of_ble_eq_true rfl) rfl ?_
    refine E_iload_n rfl rfl ?_
    have e2 : Ev ab_Z0 1 47 [.int a3] w0 (some (.int 1), w0) := by
      refine Ef.in (md := mX4_isWish) (L := [some (.int a3)]) rfl (Nat.le_of_ble_eq_true rfl) rfl ?_
      refine E_iload_n rfl rfl ?_
      refine E_if (t := 14) (b := false) rfl rfl ((cn_lt (rfl : (a3).toInt = (a3).toInt) (by decide : (0 : Int32).toInt = 0)).trans (decide_eq_false (by omega))) ?_
      refine E_iload_n rfl rfl ?_
      refine E_bipush (x := 8) rfl (by decide) ?_
      refine E_ic (t := 14) (b := false) rfl rfl ((cn_ge (rfl : (a3).toInt = (a3).toInt) (by decide : (8 : Int32).toInt = 8)).trans (decide_eq_false (by omega))) ?_
      refine E_iconst (x := 1) rfl (by decide) ?_
      refine E_goto (t := 15) rfl rfl ?_
      exact E_iret rfl rfl
    refine E_callS (v := some (.int 1)) (As := [.int a3]) (r0 := []) (cs2 := w0) rfl rfl rfl (Nat.le_of_ble_eq_true rfl) rfl e2 (by decide) rfl ?_
    refine E_if (t := 13) (b := true) rfl rfl (by decide) ?_
    refine E_iload_n rfl rfl ?_
    refine E_iconst (x := 0) rfl (by decide) ?_
    refine E_bipush (x := 99) rfl (by decide) ?_
    have e17 : Ev ab_Z0 1 115 [.int a1, .int 0, .int 99] w0 (some (.int 0), w0) := by
      refine Ef.in (md := mX5_isFrom) (L := [some (.int a1), some (.int 0), some (.int 99)]) rfl (Nat.le_of_ble_eq_true rfl) rfl ?_
      refine E_iload_n rfl rfl ?_
      refine E_iload_n rfl rfl ?_
      refine E_ic (t := 14) (b := false) rfl rfl ((cn_lt (rfl : (a1).toInt = (a1).toInt) (by decide : (0 : Int32).toInt = 0)).trans (decide_eq_false (by omega))) ?_
      refine E_iload_n rfl rfl ?_
      refine E_iload_n rfl rfl ?_
      refine E_ic (t := 14) (b := true) rfl rfl ((cn_gt (rfl : (a1).toInt = (a1).toInt) (by decide : (99 : Int32).toInt = 99)).trans (decide_eq_true (by omega))) ?_
      refine E_iconst (x := 0) rfl (by decide) ?_
      exact E_iret rfl rfl
    refine E_callS (v := some (.int 0)) (As := [.int a1, .int 0, .int 99]) (r0 := []) (cs2 := w0) rfl rfl rfl (Nat.le_of_ble_eq_true rfl) rfl e17 (by decide) rfl ?_
    refine E_if (t := 33) (b := true) rfl rfl (by decide) ?_
    refine E_aload_n rfl rfl ?_
    refine E_bipush (x := 6) rfl (by decide) ?_
    refine E_callV (v := some (.int (-6))) (As := [.ref 0, .int 6]) (r0 := []) (cs2 := (w0.set 48 (.inl [0, 0, 0, 0, 0, 0, 1, 0]))) rfl rfl rfl (Nat.le_of_ble_eq_true rfl) rfl rfl c7_X5_refuse (by decide) (by simp only [List.length_set]) ?_
    exact E_iret rfl rfl, by
    refine Ef.in (md := mX6_person) (L := [some (.ref 65), some (.int a1), some (.int a2), some (.int a3)]) rfl (Nat.le_of_ble_eq_true rfl) rfl ?_
    refine E_aload_n rfl rfl ?_
    refine E_iload_n rfl rfl ?_
    refine E_iconst (x := 0) rfl (by decide) ?_
    refine E_bipush (x := 7) rfl (by decide) ?_
    have e5 : Ev ab_Z0 1 134 [.ref 65, .int a3, .int 0, .int 7] (w0.set 48 (.inl [0, 0, 0, 0, 0, 0, 1, 0])) (some (.int 1), (w0.set 48 (.inl [0, 0, 0, 0, 0, 0, 1, 0]))) := by
      refine Ef.in (md := mX6_isFrom) (L := [some (.ref 65), some (.int a3), some (.int 0), some (.int 7)]) rfl (Nat.le_of_ble_eq_true rfl) rfl ?_
      refine E_iload_n rfl rfl ?_
      refine E_iload_n rfl rfl ?_
      refine E_ic (t := 14) (b := false) rfl rfl ((cn_lt (rfl : (a3).toInt = (a3).toInt) (by decide : (0 : Int32).toInt = 0)).trans (decide_eq_false (by omega))) ?_
      refine E_iload_n rfl rfl ?_
      refine E_iload_n rfl rfl ?_
      refine E_ic (t := 14) (b := false) rfl rfl ((cn_gt (rfl : (a3).toInt = (a3).toInt) (by decide : (7 : Int32).toInt = 7)).trans (decide_eq_false (by omega))) ?_
      refine E_iconst (x := 1) rfl (by decide) ?_
      refine E_goto (t := 15) rfl rfl ?_
      exact E_iret rfl rfl
    refine E_callV (v := some (.int 1)) (As := [.ref 65, .int a3, .int 0, .int 7]) (r0 := []) (cs2 := (w0.set 48 (.inl [0, 0, 0, 0, 0, 0, 1, 0]))) rfl rfl rfl (Nat.le_of_ble_eq_true rfl) rfl rfl e5 (by decide) rfl ?_
    refine E_if (t := 17) (b := true) rfl rfl (by decide) ?_
    refine E_aload_n rfl rfl ?_
    refine E_iload_n rfl rfl ?_
    refine E_iconst (x := 0) rfl (by decide) ?_
    refine E_bipush (x := 99) rfl (by decide) ?_
    have e22 : Ev ab_Z0 1 134 [.ref 65, .int a1, .int 0, .int 99] (w0.set 48 (.inl [0, 0, 0, 0, 0, 0, 1, 0])) (some (.int 0), (w0.set 48 (.inl [0, 0, 0, 0, 0, 0, 1, 0]))) := by
      refine Ef.in (md := mX6_isFrom) (L := [some (.ref 65), some (.int a1), some (.int 0), some (.int 99)]) rfl (Nat.le_of_ble_eq_true rfl) rfl ?_
      refine E_iload_n rfl rfl ?_
      refine E_iload_n rfl rfl ?_
      refine E_ic (t := 14) (b := false) rfl rfl ((cn_lt (rfl : (a1).toInt = (a1).toInt) (by decide : (0 : Int32).toInt = 0)).trans (decide_eq_false (by omega))) ?_
      refine E_iload_n rfl rfl ?_
      refine E_iload_n rfl rfl ?_
      refine E_ic (t := 14) (b := true) rfl rfl ((cn_gt (rfl : (a1).toInt = (a1).toInt) (by decide : (99 : Int32).toInt = 99)).trans (decide_eq_true (by omega))) ?_
      refine E_iconst (x := 0) rfl (by decide) ?_
      exact E_iret rfl rfl
    refine E_callV (v := some (.int 0)) (As := [.ref 65, .int a1, .int 0, .int 99]) (r0 := []) (cs2 := (w0.set 48 (.inl [0, 0, 0, 0, 0, 0, 1, 0]))) rfl rfl rfl (Nat.le_of_ble_eq_true rfl) rfl rfl e22 (by decide) rfl ?_
    refine E_if (t := 39) (b := true) rfl rfl (by decide) ?_
    refine E_aload_n rfl rfl ?_
    refine E_bipush (x := (-6)) rfl (by decide) ?_
    refine E_callV (v := some (.int (-6))) (As := [.ref 65, .int (-6)]) (r0 := []) (cs2 := ((w0.set 48 (.inl [0, 0, 0, 0, 0, 0, 1, 0])).set 66 (.inl [0, 0, 0, 0, 0, 0, 1, 0]))) rfl rfl rfl (Nat.le_of_ble_eq_true rfl) rfl rfl c9_X6_no (by decide) (by simp only [List.length_set]) ?_
    exact E_iret rfl rfl, (by simp only [List.length_set]; rfl), (by simp only [List.length_set]; rfl), ((ab_szs rfl).trans ((ab_szs rfl).trans rfl)), fun _ => rfl⟩
theorem f_person_7 (a1 a2 a3 : Int32) (ha3l : (8 : Int) ≤ a3.toInt) : p1_P 3 84 2 149 [.ref 0, .int a1, .int a2, .int a3] [.ref 65, .int a1, .int a2, .int a3] :=
  ⟨(-1), (w0.set 48 (.inl [0, 1, 0, 0, 0, 0, 0, 0])), ((w0.set 48 (.inl [0, 1, 0, 0, 0, 0, 0, 0])).set 66 (.inl [0, 1, 0, 0, 0, 0, 0, 0])), by
    refine Ef.in (md := mX5_person) (L := [some (.ref 0), some (.int a1), some (.int a2), some (.int a3)]) rfl (Nat.le_of_ble_eq_true rfl) rfl ?_
    refine E_iload_n rfl rfl ?_
    have e2 : Ev ab_Z0 1 47 [.int a3] w0 (some (.int 0), w0) := by
      refine Ef.in (md := mX4_isWish) (L := [some (.int a3)]) rfl (Nat.le_of_ble_eq_true rfl) rfl ?_
      refine E_iload_n rfl rfl ?_
      refine E_if (t := 14) (b := false) rfl rfl ((cn_lt (rfl : (a3).toInt = (a3).toInt) (by decide : (0 : Int32).toInt = 0)).trans (decide_eq_false (by omega))) ?_
      refine E_iload_n rfl rfl ?_
      refine E_bipush (x := 8) rfl (by decide) ?_
      refine E_ic (t := 14) (b := true) rfl rfl ((cn_ge (rfl : (a3).toInt = (a3).toInt) (by decide : (8 : Int32).toInt = 8)).trans (decide_eq_true (by omega))) ?_
      refine E_iconst (x := 0) rfl (by decide) ?_
      exact E_iret rfl rfl
    refine E_callS (v := some (.int 0)) (As := [.int a3]) (r0 := []) (cs2 := w0) rfl rfl rfl (Nat.le_of_ble_eq_true rfl) rfl e2 (by decide) rfl ?_
    refine E_if (t := 13) (b := false) rfl rfl (by decide) ?_
    refine E_aload_n rfl rfl ?_
    refine E_iconst (x := 1) rfl (by decide) ?_
    refine E_callV (v := some (.int (-1))) (As := [.ref 0, .int 1]) (r0 := []) (cs2 := (w0.set 48 (.inl [0, 1, 0, 0, 0, 0, 0, 0]))) rfl rfl rfl (Nat.le_of_ble_eq_true rfl) rfl rfl c1_X5_refuse (by decide) (by simp only [List.length_set]) ?_
    exact E_iret rfl rfl, by
    refine Ef.in (md := mX6_person) (L := [some (.ref 65), some (.int a1), some (.int a2), some (.int a3)]) rfl (Nat.le_of_ble_eq_true rfl) rfl ?_
    refine E_aload_n rfl rfl ?_
    refine E_iload_n rfl rfl ?_
    refine E_iconst (x := 0) rfl (by decide) ?_
    refine E_bipush (x := 7) rfl (by decide) ?_
    have e5 : Ev ab_Z0 1 134 [.ref 65, .int a3, .int 0, .int 7] (w0.set 48 (.inl [0, 1, 0, 0, 0, 0, 0, 0])) (some (.int 0), (w0.set 48 (.inl [0, 1, 0, 0, 0, 0, 0, 0]))) := by
      refine Ef.in (md := mX6_isFrom) (L := [some (.ref 65), some (.int a3), some (.int 0), some (.int 7)]) rfl (Nat.le_of_ble_eq_true rfl) rfl ?_
      refine E_iload_n rfl rfl ?_
      refine E_iload_n rfl rfl ?_
      refine E_ic (t := 14) (b := false) rfl rfl ((cn_lt (rfl : (a3).toInt = (a3).toInt) (by decide : (0 : Int32).toInt = 0)).trans (decide_eq_false (by omega))) ?_
      refine E_iload_n rfl rfl ?_
      refine E_iload_n rfl rfl ?_
      refine E_ic (t := 14) (b := true) rfl rfl ((cn_gt (rfl : (a3).toInt = (a3).toInt) (by decide : (7 : Int32).toInt = 7)).trans (decide_eq_true (by omega))) ?_
      refine E_iconst (x := 0) rfl (by decide) ?_
      exact E_iret rfl rfl
    refine E_callV (v := some (.int 0)) (As := [.ref 65, .int a3, .int 0, .int 7]) (r0 := []) (cs2 := (w0.set 48 (.inl [0, 1, 0, 0, 0, 0, 0, 0]))) rfl rfl rfl (Nat.le_of_ble_eq_true rfl) rfl rfl e5 (by decide) rfl ?_
    refine E_if (t := 17) (b := false) rfl rfl (by decide) ?_
    refine E_aload_n rfl rfl ?_
    refine E_iconst (x := (-1)) rfl (by decide) ?_
    refine E_callV (v := some (.int (-1))) (As := [.ref 65, .int (-1)]) (r0 := []) (cs2 := ((w0.set 48 (.inl [0, 1, 0, 0, 0, 0, 0, 0])).set 66 (.inl [0, 1, 0, 0, 0, 0, 0, 0]))) rfl rfl rfl (Nat.le_of_ble_eq_true rfl) rfl rfl c3_X6_no (by decide) (by simp only [List.length_set]) ?_
    exact E_iret rfl rfl, (by simp only [List.length_set]; rfl), (by simp only [List.length_set]; rfl), ((ab_szs rfl).trans ((ab_szs rfl).trans rfl)), fun _ => rfl⟩
theorem f_person (a1 a2 a3 : Int32) : p1_P 3 84 2 149 [.ref 0, .int a1, .int a2, .int a3] [.ref 65, .int a1, .int a2, .int a3] := by
  rcases ab_ltge a3.toInt (0) with h | h
  · exact f_person_1 a1 a2 a3 (by omega)
  rcases ab_ltge a3.toInt (8) with h | h
  · rcases ab_ltge a1.toInt (0) with h | h
    · exact f_person_2 a1 a2 a3 (by omega) (by omega) (by omega)
    rcases ab_ltge a1.toInt (100) with h | h
    · rcases ab_ltge a2.toInt (0) with h | h
      · exact f_person_3 a1 a2 a3 (by omega) (by omega) (by omega) (by omega) (by omega)
      rcases ab_ltge a2.toInt (10) with h | h
      · exact f_person_4 a1 a2 a3 (by omega) (by omega) (by omega) (by omega) (by omega) (by omega)
      exact f_person_5 a1 a2 a3 (by omega) (by omega) (by omega) (by omega) (by omega)
    exact f_person_6 a1 a2 a3 (by omega) (by omega) (by omega)
  exact f_person_7 a1 a2 a3 (by omega)
