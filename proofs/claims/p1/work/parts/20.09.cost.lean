theorem c186_X4_isWish : Ev ab_Z0 1 47 [.int 0] w0 (some (.int 1), w0) := by
  refine Ef.in (md := mX4_isWish) (L := [some (.int 0)]) rfl (Nat.le_of_ble_eq_true rfl) rfl ?_
  refine E_iload_n rfl rfl ?_
  refine E_if (t := 14) (b := false) rfl rfl (by decide) ?_
  refine E_iload_n rfl rfl ?_
  refine E_bipush (x := 8) rfl (by decide) ?_
  refine E_ic (t := 14) (b := false) rfl rfl (by decide) ?_
  refine E_iconst (x := 1) rfl (by decide) ?_
  refine E_goto (t := 15) rfl rfl ?_
  exact E_iret rfl rfl
theorem c187_X4_isWish : Ev ab_Z0 1 47 [.int 1] w0 (some (.int 1), w0) := by
  refine Ef.in (md := mX4_isWish) (L := [some (.int 1)]) rfl (Nat.le_of_ble_eq_true rfl) rfl ?_
  refine E_iload_n rfl rfl ?_
  refine E_if (t := 14) (b := false) rfl rfl (by decide) ?_
  refine E_iload_n rfl rfl ?_
  refine E_bipush (x := 8) rfl (by decide) ?_
  refine E_ic (t := 14) (b := false) rfl rfl (by decide) ?_
  refine E_iconst (x := 1) rfl (by decide) ?_
  refine E_goto (t := 15) rfl rfl ?_
  exact E_iret rfl rfl
theorem c188_X4_isWish : Ev ab_Z0 1 47 [.int 2] w0 (some (.int 1), w0) := by
  refine Ef.in (md := mX4_isWish) (L := [some (.int 2)]) rfl (Nat.le_of_ble_eq_true rfl) rfl ?_
  refine E_iload_n rfl rfl ?_
  refine E_if (t := 14) (b := false) rfl rfl (by decide) ?_
  refine E_iload_n rfl rfl ?_
  refine E_bipush (x := 8) rfl (by decide) ?_
  refine E_ic (t := 14) (b := false) rfl rfl (by decide) ?_
  refine E_iconst (x := 1) rfl (by decide) ?_
  refine E_goto (t := 15) rfl rfl ?_
  exact E_iret rfl rfl
theorem c189_X4_isWish : Ev ab_Z0 1 47 [.int 3] w0 (some (.int 1), w0) := by
  refine Ef.in (md := mX4_isWish) (L := [some (.int 3)]) rfl (Nat.le_of_ble_eq_true rfl) rfl ?_
  refine E_iload_n rfl rfl ?_
  refine E_if (t := 14) (b := false) rfl rfl (by decide) ?_
  refine E_iload_n rfl rfl ?_
  refine E_bipush (x := 8) rfl (by decide) ?_
  refine E_ic (t := 14) (b := false) rfl rfl (by decide) ?_
  refine E_iconst (x := 1) rfl (by decide) ?_
  refine E_goto (t := 15) rfl rfl ?_
  exact E_iret rfl rfl
theorem c190_X4_isWish : Ev ab_Z0 1 47 [.int 4] w0 (some (.int 1), w0) := by
  refine Ef.in (md := mX4_isWish) (L := [some (.int 4)]) rfl (Nat.le_of_ble_eq_true rfl) rfl ?_
  refine E_iload_n rfl rfl ?_
  refine E_if (t := 14) (b := false) rfl rfl (by decide) ?_
  refine E_iload_n rfl rfl ?_
  refine E_bipush (x := 8) rfl (by decide) ?_
  refine E_ic (t := 14) (b := false) rfl rfl (by decide) ?_
  refine E_iconst (x := 1) rfl (by decide) ?_
  refine E_goto (t := 15) rfl rfl ?_
  exact E_iret rfl rfl
theorem c191_X4_isWish : Ev ab_Z0 1 47 [.int 5] w0 (some (.int 1), w0) := by
  refine Ef.in (md := mX4_isWish) (L := [some (.int 5)]) rfl (Nat.le_of_ble_eq_true rfl) rfl ?_
  refine E_iload_n rfl rfl ?_
  refine E_if (t := 14) (b := false) rfl rfl (by decide) ?_
  refine E_iload_n rfl rfl ?_
  refine E_bipush (x := 8) rfl (by decide) ?_
  refine E_ic (t := 14) (b := false) rfl rfl (by decide) ?_
  refine E_iconst (x := 1) rfl (by decide) ?_
  refine E_goto (t := 15) rfl rfl ?_
  exact E_iret rfl rfl
theorem c192_X4_isWish : Ev ab_Z0 1 47 [.int 6] w0 (some (.int 1), w0) := by
  refine Ef.in (md := mX4_isWish) (L := [some (.int 6)]) rfl (Nat.le_of_ble_eq_true rfl) rfl ?_
  refine E_iload_n rfl rfl ?_
  refine E_if (t := 14) (b := false) rfl rfl (by decide) ?_
  refine E_iload_n rfl rfl ?_
  refine E_bipush (x := 8) rfl (by decide) ?_
  refine E_ic (t := 14) (b := false) rfl rfl (by decide) ?_
  refine E_iconst (x := 1) rfl (by decide) ?_
  refine E_goto (t := 15) rfl rfl ?_
  exact E_iret rfl rfl
theorem c193_X4_isWish : Ev ab_Z0 1 47 [.int 7] w0 (some (.int 1), w0) := by
  refine Ef.in (md := mX4_isWish) (L := [some (.int 7)]) rfl (Nat.le_of_ble_eq_true rfl) rfl ?_
  refine E_iload_n rfl rfl ?_
  refine E_if (t := 14) (b := false) rfl rfl (by decide) ?_
  refine E_iload_n rfl rfl ?_
  refine E_bipush (x := 8) rfl (by decide) ?_
  refine E_ic (t := 14) (b := false) rfl rfl (by decide) ?_
  refine E_iconst (x := 1) rfl (by decide) ?_
  refine E_goto (t := 15) rfl rfl ?_
  exact E_iret rfl rfl
theorem f_cost_1 (a1 a2 : Int32) (ha1h : a1.toInt ≤ -1) : p1_P 3 85 2 150 [.ref 0, .int a1, .int a2] [.ref 65, .int a1, .int a2] :=
  ⟨(-1), (w0.set 48 (.inl [0, 1, 0, 0, 0, 0, 0, 0])), ((w0.set 48 (.inl [0, 1, 0, 0, 0, 0, 0, 0])).set 66 (.inl [0, 1, 0, 0, 0, 0, 0, 0])), by
    refine Ef.in (md := mX5_cost) (L := [some (.ref 0), some (.int a1), some (.int a2), none]) rfl (Nat.le_of_ble_eq_true rfl) rfl ?_
    refine E_iload_n rfl rfl ?_
    have e2 : Ev ab_Z0 1 47 [.int a1] w0 (some (.int 0), w0) := by
      refine Ef.in (md := mX4_isWish) (L := [some (.int a1)]) rfl (Nat.le_of_ble_eq_true rfl) rfl ?_
      refine E_iload_n rfl rfl ?_
      refine E_if (t := 14) (b := true) rfl rfl ((cn_lt (rfl : (a1).toInt = (a1).toInt) (by decide : (0 : Int32).toInt = 0)).trans (decide_eq_true (by omega))) ?_
      refine E_iconst (x := 0) rfl (by decide) ?_
      exact E_iret rfl rfl
    refine E_callS (v := some (.int 0)) (As := [.int a1]) (r0 := []) (cs2 := w0) rfl rfl rfl (Nat.le_of_ble_eq_true rfl) rfl e2 (by decide) rfl ?_
    refine E_if (t := 13) (b := false) rfl rfl (by decide) ?_
    refine E_aload_n rfl rfl ?_
    refine E_iconst (x := 1) rfl (by decide) ?_
    refine E_callV (v := some (.int (-1))) (As := [.ref 0, .int 1]) (r0 := []) (cs2 := (w0.set 48 (.inl [0, 1, 0, 0, 0, 0, 0, 0]))) rfl rfl rfl (Nat.le_of_ble_eq_true rfl) rfl rfl c1_X5_refuse (by decide) (by simp only [List.length_set]) ?_
    exact E_iret rfl rfl, by
    refine Ef.in (md := mX6_cost) (L := [some (.ref 65), some (.int a1), some (.int a2), none]) rfl (Nat.le_of_ble_eq_true rfl) rfl ?_
    refine E_aload_n rfl rfl ?_
    refine E_iload_n rfl rfl ?_
    refine E_iconst (x := 0) rfl (by decide) ?_
    refine E_bipush (x := 7) rfl (by decide) ?_
    have e5 : Ev ab_Z0 1 134 [.ref 65, .int a1, .int 0, .int 7] (w0.set 48 (.inl [0, 1, 0, 0, 0, 0, 0, 0])) (some (.int 0), (w0.set 48 (.inl [0, 1, 0, 0, 0, 0, 0, 0]))) := by
      refine Ef.in (md := mX6_isFrom) (L := [some (.ref 65), some (.int a1), some (.int 0), some (.int 7)]) rfl (Nat.le_of_ble_eq_true rfl) rfl ?_
      refine E_iload_n rfl rfl ?_
      refine E_iload_n rfl rfl ?_
      refine E_ic (t := 14) (b := true) rfl rfl ((cn_lt (rfl : (a1).toInt = (a1).toInt) (by decide : (0 : Int32).toInt = 0)).trans (decide_eq_true (by omega))) ?_
      refine E_iconst (x := 0) rfl (by decide) ?_
      exact E_iret rfl rfl
    refine E_callV (v := some (.int 0)) (As := [.ref 65, .int a1, .int 0, .int 7]) (r0 := []) (cs2 := (w0.set 48 (.inl [0, 1, 0, 0, 0, 0, 0, 0]))) rfl rfl rfl (Nat.le_of_ble_eq_true rfl) rfl rfl e5 (by decide) rfl ?_
    refine E_if (t := 17) (b := false) rfl rfl (by decide) ?_
    refine E_aload_n rfl rfl ?_
    refine E_iconst (x := (-1)) rfl (by decide) ?_
    refine E_callV (v := some (.int (-1))) (As := [.ref 65, .int (-1)]) (r0 := []) (cs2 := ((w0.set 48 (.inl [0, 1, 0, 0, 0, 0, 0, 0])).set 66 (.inl [0, 1, 0, 0, 0, 0, 0, 0]))) rfl rfl rfl (Nat.le_of_ble_eq_true rfl) rfl rfl c3_X6_no (by decide) (by simp only [List.length_set]) ?_
    exact E_iret rfl rfl, (by simp only [List.length_set]; rfl), (by simp only [List.length_set]; rfl), ((ab_szs rfl).trans ((ab_szs rfl).trans rfl)), fun _ => rfl⟩
theorem f_cost_2 (a1 a2 : Int32) (ha1l : (0 : Int) ≤ a1.toInt) (ha1h : a1.toInt ≤ 7) (ha2h : a2.toInt ≤ 0) : p1_P 3 85 2 150 [.ref 0, .int a1, .int a2] [.ref 65, .int a1, .int a2] :=
  ⟨(-6), (w0.set 48 (.inl [0, 0, 0, 0, 0, 0, 1, 0])), ((w0.set 48 (.inl [0, 0, 0, 0, 0, 0, 1, 0])).set 66 (.inl [0, 0, 0, 0, 0, 0, 1, 0])), by
    refine Ef.in (md := mX5_cost) (L := [some (.ref 0), some (.int a1), some (.int a2), none]) rfl (Nat.le_of_ble_eq_true rfl) rfl ?_
    refine E_iload_n rfl rfl ?_
    have e2 : Ev ab_Z0 1 47 [.int a1] w0 (some (.int 1), w0) := by
      refine Ef.in (md := mX4_isWish) (L := [some (.int a1)]) rfl (Nat.le_of_ble_eq_true rfl) rfl ?_
      refine E_iload_n rfl rfl ?_
      refine E_if (t := 14) (b := false) rfl rfl ((cn_lt (rfl : (a1).toInt = (a1).toInt) (by decide : (0 : Int32).toInt = 0)).trans (decide_eq_false (by omega))) ?_
      refine E_iload_n rfl rfl ?_
      refine E_bipush (x := 8) rfl (by decide) ?_
      refine E_ic (t := 14) (b := false) rfl rfl ((cn_ge (rfl : (a1).toInt = (a1).toInt) (by decide : (8 : Int32).toInt = 8)).trans (decide_eq_false (by omega))) ?_
      refine E_iconst (x := 1) rfl (by decide) ?_
      refine E_goto (t := 15) rfl rfl ?_
      exact E_iret rfl rfl
    refine E_callS (v := some (.int 1)) (As := [.int a1]) (r0 := []) (cs2 := w0) rfl rfl rfl (Nat.le_of_ble_eq_true rfl) rfl e2 (by decide) rfl ?_
    refine E_if (t := 13) (b := true) rfl rfl (by decide) ?_
    refine E_iload_n rfl rfl ?_
    refine E_iconst (x := 1) rfl (by decide) ?_
    refine E_bipush (x := 60) rfl (by decide) ?_
    have e17 : Ev ab_Z0 1 115 [.int a2, .int 1, .int 60] w0 (some (.int 0), w0) := by
      refine Ef.in (md := mX5_isFrom) (L := [some (.int a2), some (.int 1), some (.int 60)]) rfl (Nat.le_of_ble_eq_true rfl) rfl ?_
      refine E_iload_n rfl rfl ?_
      refine E_iload_n rfl rfl ?_
      refine E_ic (t := 14) (b := true) rfl rfl ((cn_lt (rfl : (a2).toInt = (a2).toInt) (by decide : (1 : Int32).toInt = 1)).trans (decide_eq_true (by omega))) ?_
      refine E_iconst (x := 0) rfl (by decide) ?_
      exact E_iret rfl rfl
    refine E_callS (v := some (.int 0)) (As := [.int a2, .int 1, .int 60]) (r0 := []) (cs2 := w0) rfl rfl rfl (Nat.le_of_ble_eq_true rfl) rfl e17 (by decide) rfl ?_
    refine E_if (t := 30) (b := false) rfl rfl (by decide) ?_
    refine E_aload_n rfl rfl ?_
    refine E_bipush (x := 6) rfl (by decide) ?_
    refine E_callV (v := some (.int (-6))) (As := [.ref 0, .int 6]) (r0 := []) (cs2 := (w0.set 48 (.inl [0, 0, 0, 0, 0, 0, 1, 0]))) rfl rfl rfl (Nat.le_of_ble_eq_true rfl) rfl rfl c7_X5_refuse (by decide) (by simp only [List.length_set]) ?_
    exact E_iret rfl rfl, by
    refine Ef.in (md := mX6_cost) (L := [some (.ref 65), some (.int a1), some (.int a2), none]) rfl (Nat.le_of_ble_eq_true rfl) rfl ?_
    refine E_aload_n rfl rfl ?_
    refine E_iload_n rfl rfl ?_
    refine E_iconst (x := 0) rfl (by decide) ?_
    refine E_bipush (x := 7) rfl (by decide) ?_
    have e5 : Ev ab_Z0 1 134 [.ref 65, .int a1, .int 0, .int 7] (w0.set 48 (.inl [0, 0, 0, 0, 0, 0, 1, 0])) (some (.int 1), (w0.set 48 (.inl [0, 0, 0, 0, 0, 0, 1, 0]))) := by
      refine Ef.in (md := mX6_isFrom) (L := [some (.ref 65), some (.int a1), some (.int 0), some (.int 7)]) rfl (Nat.le_of_ble_eq_true rfl) rfl ?_
      refine E_iload_n rfl rfl ?_
      refine E_iload_n rfl rfl ?_
      refine E_ic (t := 14) (b := false) rfl rfl ((cn_lt (rfl : (a1).toInt = (a1).toInt) (by decide : (0 : Int32).toInt = 0)).trans (decide_eq_false (by omega))) ?_
      refine E_iload_n rfl rfl ?_
      refine E_iload_n rfl rfl ?_
      refine E_ic (t := 14) (b := false) rfl rfl ((cn_gt (rfl : (a1).toInt = (a1).toInt) (by decide : (7 : Int32).toInt = 7)).trans (decide_eq_false (by omega))) ?_
      refine E_iconst (x := 1) rfl (by decide) ?_
      refine E_goto (t := 15) rfl rfl ?_
      exact E_iret rfl rfl
    refine E_callV (v := some (.int 1)) (As := [.ref 65, .int a1, .int 0, .int 7]) (r0 := []) (cs2 := (w0.set 48 (.inl [0, 0, 0, 0, 0, 0, 1, 0]))) rfl rfl rfl (Nat.le_of_ble_eq_true rfl) rfl rfl e5 (by decide) rfl ?_
    refine E_if (t := 17) (b := true) rfl rfl (by decide) ?_
    refine E_aload_n rfl rfl ?_
    refine E_iload_n rfl rfl ?_
    refine E_iconst (x := 1) rfl (by decide) ?_
    refine E_bipush (x := 60) rfl (by decide) ?_
    have e22 : Ev ab_Z0 1 134 [.ref 65, .int a2, .int 1, .int 60] (w0.set 48 (.inl [0, 0, 0, 0, 0, 0, 1, 0])) (some (.int 0), (w0.set 48 (.inl [0, 0, 0, 0, 0, 0, 1, 0]))) := by
      refine Ef.in (md := mX6_isFrom) (L := [some (.ref 65), some (.int a2), some (.int 1), some (.int 60)]) rfl (Nat.le_of_ble_eq_true rfl) rfl ?_
      refine E_iload_n rfl rfl ?_
      refine E_iload_n rfl rfl ?_
      refine E_ic (t := 14) (b := true) rfl rfl ((cn_lt (rfl : (a2).toInt = (a2).toInt) (by decide : (1 : Int32).toInt = 1)).trans (decide_eq_true (by omega))) ?_
      refine E_iconst (x := 0) rfl (by decide) ?_
      exact E_iret rfl rfl
    refine E_callV (v := some (.int 0)) (As := [.ref 65, .int a2, .int 1, .int 60]) (r0 := []) (cs2 := (w0.set 48 (.inl [0, 0, 0, 0, 0, 0, 1, 0]))) rfl rfl rfl (Nat.le_of_ble_eq_true rfl) rfl rfl e22 (by decide) rfl ?_
    refine E_if (t := 35) (b := false) rfl rfl (by decide) ?_
    refine E_aload_n rfl rfl ?_
    refine E_bipush (x := (-6)) rfl (by decide) ?_
    refine E_callV (v := some (.int (-6))) (As := [.ref 65, .int (-6)]) (r0 := []) (cs2 := ((w0.set 48 (.inl [0, 0, 0, 0, 0, 0, 1, 0])).set 66 (.inl [0, 0, 0, 0, 0, 0, 1, 0]))) rfl rfl rfl (Nat.le_of_ble_eq_true rfl) rfl rfl c9_X6_no (by decide) (by simp only [List.length_set]) ?_
    exact E_iret rfl rfl, (by simp only [List.length_set]; rfl), (by simp only [List.length_set]; rfl), ((ab_szs rfl).trans ((ab_szs rfl).trans rfl)), fun _ => rfl⟩
theorem f_cost_3 (a2 : Int32) (ha2l : (1 : Int) ≤ a2.toInt) (ha2h : a2.toInt ≤ 60) : p1_P 3 85 2 150 [.ref 0, .int 0, .int a2] [.ref 65, .int 0, .int a2] :=
  ⟨5, (w0.set 10 (.inl [a2, 6, 7, 8, 9, 10, 11, 12])), ((w0.set 10 (.inl [a2, 6, 7, 8, 9, 10, 11, 12])).set 75 (.inl [a2, 6, 7, 8, 9, 10, 11, 12])), by
    refine Ef.in (md := mX5_cost) (L := [some (.ref 0), some (.int 0), some (.int a2), none]) rfl (Nat.le_of_ble_eq_true rfl) rfl ?_
    refine E_iload_n rfl rfl ?_
    refine E_callS (v := some (.int 1)) (As := [.int 0]) (r0 := []) (cs2 := w0) rfl rfl rfl (Nat.le_of_ble_eq_true rfl) rfl c186_X4_isWish (by decide) rfl ?_
    refine E_if (t := 13) (b := true) rfl rfl (by decide) ?_
    refine E_iload_n rfl rfl ?_
    refine E_iconst (x := 1) rfl (by decide) ?_
    refine E_bipush (x := 60) rfl (by decide) ?_
    have e7 : Ev ab_Z0 1 115 [.int a2, .int 1, .int 60] w0 (some (.int 1), w0) := by
      refine Ef.in (md := mX5_isFrom) (L := [some (.int a2), some (.int 1), some (.int 60)]) rfl (Nat.le_of_ble_eq_true rfl) rfl ?_
      refine E_iload_n rfl rfl ?_
      refine E_iload_n rfl rfl ?_
      refine E_ic (t := 14) (b := false) rfl rfl ((cn_lt (rfl : (a2).toInt = (a2).toInt) (by decide : (1 : Int32).toInt = 1)).trans (decide_eq_false (by omega))) ?_
      refine E_iload_n rfl rfl ?_
      refine E_iload_n rfl rfl ?_
      refine E_ic (t := 14) (b := false) rfl rfl ((cn_gt (rfl : (a2).toInt = (a2).toInt) (by decide : (60 : Int32).toInt = 60)).trans (decide_eq_false (by omega))) ?_
      refine E_iconst (x := 1) rfl (by decide) ?_
      refine E_goto (t := 15) rfl rfl ?_
      exact E_iret rfl rfl
    refine E_callS (v := some (.int 1)) (As := [.int a2, .int 1, .int 60]) (r0 := []) (cs2 := w0) rfl rfl rfl (Nat.le_of_ble_eq_true rfl) rfl e7 (by decide) rfl ?_
    refine E_if (t := 30) (b := true) rfl rfl (by decide) ?_
    refine E_aload_n rfl rfl ?_
    refine E_getfield (v := .ref 1) rfl rfl rfl (by decide) rfl ?_
    refine E_getfield (v := .ref 10) rfl rfl rfl (by decide) rfl ?_
    refine E_iload_n rfl rfl ?_
    refine E_iaload (x := 5) (j := 0) rfl rfl (by decide) (by decide) rfl ?_
    refine E_istore_n (L2 := [some (.ref 0), some (.int 0), some (.int a2), some (.int 5)]) rfl rfl ?_
    refine E_aload_n rfl rfl ?_
    refine E_getfield (v := .ref 1) rfl rfl rfl (by decide) rfl ?_
    refine E_getfield (v := .ref 10) rfl rfl rfl (by decide) rfl ?_
    refine E_iload_n rfl rfl ?_
    refine E_iload_n rfl rfl ?_
    refine E_iastore (j := 0) (cs2 := (w0.set 10 (.inl [a2, 6, 7, 8, 9, 10, 11, 12]))) rfl rfl (by decide) (by decide) (Nat.le_of_ble_eq_true rfl) rfl ?_
    refine E_iload_n rfl rfl ?_
    exact E_iret rfl rfl, by
    refine Ef.in (md := mX6_cost) (L := [some (.ref 65), some (.int 0), some (.int a2), none]) rfl (Nat.le_of_ble_eq_true rfl) rfl ?_
    refine E_aload_n rfl rfl ?_
    refine E_iload_n rfl rfl ?_
    refine E_iconst (x := 0) rfl (by decide) ?_
    refine E_bipush (x := 7) rfl (by decide) ?_
    have e5 : Ev ab_Z0 1 134 [.ref 65, .int 0, .int 0, .int 7] (w0.set 10 (.inl [a2, 6, 7, 8, 9, 10, 11, 12])) (some (.int 1), (w0.set 10 (.inl [a2, 6, 7, 8, 9, 10, 11, 12]))) := by
      refine Ef.in (md := mX6_isFrom) (L := [some (.ref 65), some (.int 0), some (.int 0), some (.int 7)]) rfl (Nat.le_of_ble_eq_true rfl) rfl ?_
      refine E_iload_n rfl rfl ?_
      refine E_iload_n rfl rfl ?_
      refine E_ic (t := 14) (b := false) rfl rfl (by decide) ?_
      refine E_iload_n rfl rfl ?_
      refine E_iload_n rfl rfl ?_
      refine E_ic (t := 14) (b := false) rfl rfl (by decide) ?_
      refine E_iconst (x := 1) rfl (by decide) ?_
      refine E_goto (t := 15) rfl rfl ?_
      exact E_iret rfl rfl
    refine E_callV (v := some (.int 1)) (As := [.ref 65, .int 0, .int 0, .int 7]) (r0 := []) (cs2 := (w0.set 10 (.inl [a2, 6, 7, 8, 9, 10, 11, 12]))) rfl rfl rfl (Nat.le_of_ble_eq_true rfl) rfl rfl e5 (by decide) rfl ?_
    refine E_if (t := 17) (b := true) rfl rfl (by decide) ?_
    refine E_aload_n rfl rfl ?_
    refine E_iload_n rfl rfl ?_
    refine E_iconst (x := 1) rfl (by decide) ?_
    refine E_bipush (x := 60) rfl (by decide) ?_
    have e22 : Ev ab_Z0 1 134 [.ref 65, .int a2, .int 1, .int 60] (w0.set 10 (.inl [a2, 6, 7, 8, 9, 10, 11, 12])) (some (.int 1), (w0.set 10 (.inl [a2, 6, 7, 8, 9, 10, 11, 12]))) := by
      refine Ef.in (md := mX6_isFrom) (L := [some (.ref 65), some (.int a2), some (.int 1), some (.int 60)]) rfl (Nat.le_of_ble_eq_true rfl) rfl ?_
      refine E_iload_n rfl rfl ?_
      refine E_iload_n rfl rfl ?_
      refine E_ic (t := 14) (b := false) rfl rfl ((cn_lt (rfl : (a2).toInt = (a2).toInt) (by decide : (1 : Int32).toInt = 1)).trans (decide_eq_false (by omega))) ?_
      refine E_iload_n rfl rfl ?_
      refine E_iload_n rfl rfl ?_
      refine E_ic (t := 14) (b := false) rfl rfl ((cn_gt (rfl : (a2).toInt = (a2).toInt) (by decide : (60 : Int32).toInt = 60)).trans (decide_eq_false (by omega))) ?_
      refine E_iconst (x := 1) rfl (by decide) ?_
      refine E_goto (t := 15) rfl rfl ?_
      exact E_iret rfl rfl
    refine E_callV (v := some (.int 1)) (As := [.ref 65, .int a2, .int 1, .int 60]) (r0 := []) (cs2 := (w0.set 10 (.inl [a2, 6, 7, 8, 9, 10, 11, 12]))) rfl rfl rfl (Nat.le_of_ble_eq_true rfl) rfl rfl e22 (by decide) rfl ?_
    refine E_if (t := 35) (b := true) rfl rfl (by decide) ?_
    refine E_aload_n rfl rfl ?_
    refine E_getfield (v := .ref 75) rfl rfl rfl (by decide) rfl ?_
    refine E_iload_n rfl rfl ?_
    refine E_iaload (x := 5) (j := 0) rfl rfl (by decide) (by decide) rfl ?_
    refine E_istore_n (L2 := [some (.ref 65), some (.int 0), some (.int a2), some (.int 5)]) rfl rfl ?_
    refine E_aload_n rfl rfl ?_
    refine E_getfield (v := .ref 75) rfl rfl rfl (by decide) rfl ?_
    refine E_iload_n rfl rfl ?_
    refine E_iload_n rfl rfl ?_
    refine E_iastore (j := 0) (cs2 := ((w0.set 10 (.inl [a2, 6, 7, 8, 9, 10, 11, 12])).set 75 (.inl [a2, 6, 7, 8, 9, 10, 11, 12]))) rfl rfl (by decide) (by decide) (Nat.le_of_ble_eq_true rfl) rfl ?_
    refine E_iload_n rfl rfl ?_
    exact E_iret rfl rfl, (by simp only [List.length_set]; rfl), (by simp only [List.length_set]; rfl), ((ab_szs rfl).trans ((ab_szs rfl).trans rfl)), fun _ => rfl⟩
theorem f_cost_4 (a2 : Int32) (ha2l : (1 : Int) ≤ a2.toInt) (ha2h : a2.toInt ≤ 60) : p1_P 3 85 2 150 [.ref 0, .int 1, .int a2] [.ref 65, .int 1, .int a2] :=
  ⟨6, (w0.set 10 (.inl [5, a2, 7, 8, 9, 10, 11, 12])), ((w0.set 10 (.inl [5, a2, 7, 8, 9, 10, 11, 12])).set 75 (.inl [5, a2, 7, 8, 9, 10, 11, 12])), by
    refine Ef.in (md := mX5_cost) (L := [some (.ref 0), some (.int 1), some (.int a2), none]) rfl (Nat.le_of_ble_eq_true rfl) rfl ?_
    refine E_iload_n rfl rfl ?_
    refine E_callS (v := some (.int 1)) (As := [.int 1]) (r0 := []) (cs2 := w0) rfl rfl rfl (Nat.le_of_ble_eq_true rfl) rfl c187_X4_isWish (by decide) rfl ?_
    refine E_if (t := 13) (b := true) rfl rfl (by decide) ?_
    refine E_iload_n rfl rfl ?_
    refine E_iconst (x := 1) rfl (by decide) ?_
    refine E_bipush (x := 60) rfl (by decide) ?_
    have e7 : Ev ab_Z0 1 115 [.int a2, .int 1, .int 60] w0 (some (.int 1), w0) := by
      refine Ef.in (md := mX5_isFrom) (L := [some (.int a2), some (.int 1), some (.int 60)]) rfl (Nat.le_of_ble_eq_true rfl) rfl ?_
      refine E_iload_n rfl rfl ?_
      refine E_iload_n rfl rfl ?_
      refine E_ic (t := 14) (b := false) rfl rfl ((cn_lt (rfl : (a2).toInt = (a2).toInt) (by decide : (1 : Int32).toInt = 1)).trans (decide_eq_false (by omega))) ?_
      refine E_iload_n rfl rfl ?_
      refine E_iload_n rfl rfl ?_
      refine E_ic (t := 14) (b := false) rfl rfl ((cn_gt (rfl : (a2).toInt = (a2).toInt) (by decide : (60 : Int32).toInt = 60)).trans (decide_eq_false (by omega))) ?_
      refine E_iconst (x := 1) rfl (by decide) ?_
      refine E_goto (t := 15) rfl rfl ?_
      exact E_iret rfl rfl
    refine E_callS (v := some (.int 1)) (As := [.int a2, .int 1, .int 60]) (r0 := []) (cs2 := w0) rfl rfl rfl (Nat.le_of_ble_eq_true rfl) rfl e7 (by decide) rfl ?_
    refine E_if (t := 30) (b := true) rfl rfl (by decide) ?_
    refine E_aload_n rfl rfl ?_
    refine E_getfield (v := .ref 1) rfl rfl rfl (by decide) rfl ?_
    refine E_getfield (v := .ref 10) rfl rfl rfl (by decide) rfl ?_
    refine E_iload_n rfl rfl ?_
    refine E_iaload (x := 6) (j := 1) rfl rfl (by decide) (by decide) rfl ?_
    refine E_istore_n (L2 := [some (.ref 0), some (.int 1), some (.int a2), some (.int 6)]) rfl rfl ?_
    refine E_aload_n rfl rfl ?_
    refine E_getfield (v := .ref 1) rfl rfl rfl (by decide) rfl ?_
    refine E_getfield (v := .ref 10) rfl rfl rfl (by decide) rfl ?_
    refine E_iload_n rfl rfl ?_
    refine E_iload_n rfl rfl ?_
    refine E_iastore (j := 1) (cs2 := (w0.set 10 (.inl [5, a2, 7, 8, 9, 10, 11, 12]))) rfl rfl (by decide) (by decide) (Nat.le_of_ble_eq_true rfl) rfl ?_
    refine E_iload_n rfl rfl ?_
    exact E_iret rfl rfl, by
    refine Ef.in (md := mX6_cost) (L := [some (.ref 65), some (.int 1), some (.int a2), none]) rfl (Nat.le_of_ble_eq_true rfl) rfl ?_
    refine E_aload_n rfl rfl ?_
    refine E_iload_n rfl rfl ?_
    refine E_iconst (x := 0) rfl (by decide) ?_
    refine E_bipush (x := 7) rfl (by decide) ?_
    have e5 : Ev ab_Z0 1 134 [.ref 65, .int 1, .int 0, .int 7] (w0.set 10 (.inl [5, a2, 7, 8, 9, 10, 11, 12])) (some (.int 1), (w0.set 10 (.inl [5, a2, 7, 8, 9, 10, 11, 12]))) := by
      refine Ef.in (md := mX6_isFrom) (L := [some (.ref 65), some (.int 1), some (.int 0), some (.int 7)]) rfl (Nat.le_of_ble_eq_true rfl) rfl ?_
      refine E_iload_n rfl rfl ?_
      refine E_iload_n rfl rfl ?_
      refine E_ic (t := 14) (b := false) rfl rfl (by decide) ?_
      refine E_iload_n rfl rfl ?_
      refine E_iload_n rfl rfl ?_
      refine E_ic (t := 14) (b := false) rfl rfl (by decide) ?_
      refine E_iconst (x := 1) rfl (by decide) ?_
      refine E_goto (t := 15) rfl rfl ?_
      exact E_iret rfl rfl
    refine E_callV (v := some (.int 1)) (As := [.ref 65, .int 1, .int 0, .int 7]) (r0 := []) (cs2 := (w0.set 10 (.inl [5, a2, 7, 8, 9, 10, 11, 12]))) rfl rfl rfl (Nat.le_of_ble_eq_true rfl) rfl rfl e5 (by decide) rfl ?_
    refine E_if (t := 17) (b := true) rfl rfl (by decide) ?_
    refine E_aload_n rfl rfl ?_
    refine E_iload_n rfl rfl ?_
    refine E_iconst (x := 1) rfl (by decide) ?_
    refine E_bipush (x := 60) rfl (by decide) ?_
    have e22 : Ev ab_Z0 1 134 [.ref 65, .int a2, .int 1, .int 60] (w0.set 10 (.inl [5, a2, 7, 8, 9, 10, 11, 12])) (some (.int 1), (w0.set 10 (.inl [5, a2, 7, 8, 9, 10, 11, 12]))) := by
      refine Ef.in (md := mX6_isFrom) (L := [some (.ref 65), some (.int a2), some (.int 1), some (.int 60)]) rfl (Nat.le_of_ble_eq_true rfl) rfl ?_
      refine E_iload_n rfl rfl ?_
      refine E_iload_n rfl rfl ?_
      refine E_ic (t := 14) (b := false) rfl rfl ((cn_lt (rfl : (a2).toInt = (a2).toInt) (by decide : (1 : Int32).toInt = 1)).trans (decide_eq_false (by omega))) ?_
      refine E_iload_n rfl rfl ?_
      refine E_iload_n rfl rfl ?_
      refine E_ic (t := 14) (b := false) rfl rfl ((cn_gt (rfl : (a2).toInt = (a2).toInt) (by decide : (60 : Int32).toInt = 60)).trans (decide_eq_false (by omega))) ?_
      refine E_iconst (x := 1) rfl (by decide) ?_
      refine E_goto (t := 15) rfl rfl ?_
      exact E_iret rfl rfl
    refine E_callV (v := some (.int 1)) (As := [.ref 65, .int a2, .int 1, .int 60]) (r0 := []) (cs2 := (w0.set 10 (.inl [5, a2, 7, 8, 9, 10, 11, 12]))) rfl rfl rfl (Nat.le_of_ble_eq_true rfl) rfl rfl e22 (by decide) rfl ?_
    refine E_if (t := 35) (b := true) rfl rfl (by decide) ?_
    refine E_aload_n rfl rfl ?_
    refine E_getfield (v := .ref 75) rfl rfl rfl (by decide) rfl ?_
    refine E_iload_n rfl rfl ?_
    refine E_iaload (x := 6) (j := 1) rfl rfl (by decide) (by decide) rfl ?_
    refine E_istore_n (L2 := [some (.ref 65), some (.int 1), some (.int a2), some (.int 6)]) rfl rfl ?_
    refine E_aload_n rfl rfl ?_
    refine E_getfield (v := .ref 75) rfl rfl rfl (by decide) rfl ?_
    refine E_iload_n rfl rfl ?_
    refine E_iload_n rfl rfl ?_
    refine E_iastore (j := 1) (cs2 := ((w0.set 10 (.inl [5, a2, 7, 8, 9, 10, 11, 12])).set 75 (.inl [5, a2, 7, 8, 9, 10, 11, 12]))) rfl rfl (by decide) (by decide) (Nat.le_of_ble_eq_true rfl) rfl ?_
    refine E_iload_n rfl rfl ?_
    exact E_iret rfl rfl, (by simp only [List.length_set]; rfl), (by simp only [List.length_set]; rfl), ((ab_szs rfl).trans ((ab_szs rfl).trans rfl)), fun _ => rfl⟩
theorem f_cost_5 (a2 : Int32) (ha2l : (1 : Int) ≤ a2.toInt) (ha2h : a2.toInt ≤ 60) : p1_P 3 85 2 150 [.ref 0, .int 2, .int a2] [.ref 65, .int 2, .int a2] :=
  ⟨7, (w0.set 10 (.inl [5, 6, a2, 8, 9, 10, 11, 12])), ((w0.set 10 (.inl [5, 6, a2, 8, 9, 10, 11, 12])).set 75 (.inl [5, 6, a2, 8, 9, 10, 11, 12])), by
    refine Ef.in (md := mX5_cost) (L := [some (.ref 0), some (.int 2), some (.int a2), none]) rfl (Nat.le_of_ble_eq_true rfl) rfl ?_
    refine E_iload_n rfl rfl ?_
    refine E_callS (v := some (.int 1)) (As := [.int 2]) (r0 := []) (cs2 := w0) rfl rfl rfl (Nat.le_of_ble_eq_true rfl) rfl c188_X4_isWish (by decide) rfl ?_
    refine E_if (t := 13) (b := true) rfl rfl (by decide) ?_
    refine E_iload_n rfl rfl ?_
    refine E_iconst (x := 1) rfl (by decide) ?_
    refine E_bipush (x := 60) rfl (by decide) ?_
    have e7 : Ev ab_Z0 1 115 [.int a2, .int 1, .int 60] w0 (some (.int 1), w0) := by
      refine Ef.in (md := mX5_isFrom) (L := [some (.int a2), some (.int 1), some (.int 60)]) rfl (Nat.le_of_ble_eq_true rfl) rfl ?_
      refine E_iload_n rfl rfl ?_
      refine E_iload_n rfl rfl ?_
      refine E_ic (t := 14) (b := false) rfl rfl ((cn_lt (rfl : (a2).toInt = (a2).toInt) (by decide : (1 : Int32).toInt = 1)).trans (decide_eq_false (by omega))) ?_
      refine E_iload_n rfl rfl ?_
      refine E_iload_n rfl rfl ?_
      refine E_ic (t := 14) (b := false) rfl rfl ((cn_gt (rfl : (a2).toInt = (a2).toInt) (by decide : (60 : Int32).toInt = 60)).trans (decide_eq_false (by omega))) ?_
      refine E_iconst (x := 1) rfl (by decide) ?_
      refine E_goto (t := 15) rfl rfl ?_
      exact E_iret rfl rfl
    refine E_callS (v := some (.int 1)) (As := [.int a2, .int 1, .int 60]) (r0 := []) (cs2 := w0) rfl rfl rfl (Nat.le_of_ble_eq_true rfl) rfl e7 (by decide) rfl ?_
    refine E_if (t := 30) (b := true) rfl rfl (by decide) ?_
    refine E_aload_n rfl rfl ?_
    refine E_getfield (v := .ref 1) rfl rfl rfl (by decide) rfl ?_
    refine E_getfield (v := .ref 10) rfl rfl rfl (by decide) rfl ?_
    refine E_iload_n rfl rfl ?_
    refine E_iaload (x := 7) (j := 2) rfl rfl (by decide) (by decide) rfl ?_
    refine E_istore_n (L2 := [some (.ref 0), some (.int 2), some (.int a2), some (.int 7)]) rfl rfl ?_
    refine E_aload_n rfl rfl ?_
    refine E_getfield (v := .ref 1) rfl rfl rfl (by decide) rfl ?_
    refine E_getfield (v := .ref 10) rfl rfl rfl (by decide) rfl ?_
    refine E_iload_n rfl rfl ?_
    refine E_iload_n rfl rfl ?_
    refine E_iastore (j := 2) (cs2 := (w0.set 10 (.inl [5, 6, a2, 8, 9, 10, 11, 12]))) rfl rfl (by decide) (by decide) (Nat.le_of_ble_eq_true rfl) rfl ?_
    refine E_iload_n rfl rfl ?_
    exact E_iret rfl rfl, by
    refine Ef.in (md := mX6_cost) (L := [some (.ref 65), some (.int 2), some (.int a2), none]) rfl (Nat.le_of_ble_eq_true rfl) rfl ?_
    refine E_aload_n rfl rfl ?_
    refine E_iload_n rfl rfl ?_
    refine E_iconst (x := 0) rfl (by decide) ?_
    refine E_bipush (x := 7) rfl (by decide) ?_
    have e5 : Ev ab_Z0 1 134 [.ref 65, .int 2, .int 0, .int 7] (w0.set 10 (.inl [5, 6, a2, 8, 9, 10, 11, 12])) (some (.int 1), (w0.set 10 (.inl [5, 6, a2, 8, 9, 10, 11, 12]))) := by
      refine Ef.in (md := mX6_isFrom) (L := [some (.ref 65), some (.int 2), some (.int 0), some (.int 7)]) rfl (Nat.le_of_ble_eq_true rfl) rfl ?_
      refine E_iload_n rfl rfl ?_
      refine E_iload_n rfl rfl ?_
      refine E_ic (t := 14) (b := false) rfl rfl (by decide) ?_
      refine E_iload_n rfl rfl ?_
      refine E_iload_n rfl rfl ?_
      refine E_ic (t := 14) (b := false) rfl rfl (by decide) ?_
      refine E_iconst (x := 1) rfl (by decide) ?_
      refine E_goto (t := 15) rfl rfl ?_
      exact E_iret rfl rfl
    refine E_callV (v := some (.int 1)) (As := [.ref 65, .int 2, .int 0, .int 7]) (r0 := []) (cs2 := (w0.set 10 (.inl [5, 6, a2, 8, 9, 10, 11, 12]))) rfl rfl rfl (Nat.le_of_ble_eq_true rfl) rfl rfl e5 (by decide) rfl ?_
    refine E_if (t := 17) (b := true) rfl rfl (by decide) ?_
    refine E_aload_n rfl rfl ?_
    refine E_iload_n rfl rfl ?_
    refine E_iconst (x := 1) rfl (by decide) ?_
    refine E_bipush (x := 60) rfl (by decide) ?_
    have e22 : Ev ab_Z0 1 134 [.ref 65, .int a2, .int 1, .int 60] (w0.set 10 (.inl [5, 6, a2, 8, 9, 10, 11, 12])) (some (.int 1), (w0.set 10 (.inl [5, 6, a2, 8, 9, 10, 11, 12]))) := by
      refine Ef.in (md := mX6_isFrom) (L := [some (.ref 65), some (.int a2), some (.int 1), some (.int 60)]) rfl (Nat.le_of_ble_eq_true rfl) rfl ?_
      refine E_iload_n rfl rfl ?_
      refine E_iload_n rfl rfl ?_
      refine E_ic (t := 14) (b := false) rfl rfl ((cn_lt (rfl : (a2).toInt = (a2).toInt) (by decide : (1 : Int32).toInt = 1)).trans (decide_eq_false (by omega))) ?_
      refine E_iload_n rfl rfl ?_
      refine E_iload_n rfl rfl ?_
      refine E_ic (t := 14) (b := false) rfl rfl ((cn_gt (rfl : (a2).toInt = (a2).toInt) (by decide : (60 : Int32).toInt = 60)).trans (decide_eq_false (by omega))) ?_
      refine E_iconst (x := 1) rfl (by decide) ?_
      refine E_goto (t := 15) rfl rfl ?_
      exact E_iret rfl rfl
    refine E_callV (v := some (.int 1)) (As := [.ref 65, .int a2, .int 1, .int 60]) (r0 := []) (cs2 := (w0.set 10 (.inl [5, 6, a2, 8, 9, 10, 11, 12]))) rfl rfl rfl (Nat.le_of_ble_eq_true rfl) rfl rfl e22 (by decide) rfl ?_
    refine E_if (t := 35) (b := true) rfl rfl (by decide) ?_
    refine E_aload_n rfl rfl ?_
    refine E_getfield (v := .ref 75) rfl rfl rfl (by decide) rfl ?_
    refine E_iload_n rfl rfl ?_
    refine E_iaload (x := 7) (j := 2) rfl rfl (by decide) (by decide) rfl ?_
    refine E_istore_n (L2 := [some (.ref 65), some (.int 2), some (.int a2), some (.int 7)]) rfl rfl ?_
    refine E_aload_n rfl rfl ?_
    refine E_getfield (v := .ref 75) rfl rfl rfl (by decide) rfl ?_
    refine E_iload_n rfl rfl ?_
    refine E_iload_n rfl rfl ?_
    refine E_iastore (j := 2) (cs2 := ((w0.set 10 (.inl [5, 6, a2, 8, 9, 10, 11, 12])).set 75 (.inl [5, 6, a2, 8, 9, 10, 11, 12]))) rfl rfl (by decide) (by decide) (Nat.le_of_ble_eq_true rfl) rfl ?_
    refine E_iload_n rfl rfl ?_
    exact E_iret rfl rfl, (by simp only [List.length_set]; rfl), (by simp only [List.length_set]; rfl), ((ab_szs rfl).trans ((ab_szs rfl).trans rfl)), fun _ => rfl⟩
theorem f_cost_6 (a2 : Int32) (ha2l : (1 : Int) ≤ a2.toInt) (ha2h : a2.toInt ≤ 60) : p1_P 3 85 2 150 [.ref 0, .int 3, .int a2] [.ref 65, .int 3, .int a2] :=
  ⟨8, (w0.set 10 (.inl [5, 6, 7, a2, 9, 10, 11, 12])), ((w0.set 10 (.inl [5, 6, 7, a2, 9, 10, 11, 12])).set 75 (.inl [5, 6, 7, a2, 9, 10, 11, 12])), by
    refine Ef.in (md := mX5_cost) (L := [some (.ref 0), some (.int 3), some (.int a2), none]) rfl (Nat.le_of_ble_eq_true rfl) rfl ?_
    refine E_iload_n rfl rfl ?_
    refine E_callS (v := some (.int 1)) (As := [.int 3]) (r0 := []) (cs2 := w0) rfl rfl rfl (Nat.le_of_ble_eq_true rfl) rfl c189_X4_isWish (by decide) rfl ?_
    refine E_if (t := 13) (b := true) rfl rfl (by decide) ?_
    refine E_iload_n rfl rfl ?_
    refine E_iconst (x := 1) rfl (by decide) ?_
    refine E_bipush (x := 60) rfl (by decide) ?_
    have e7 : Ev ab_Z0 1 115 [.int a2, .int 1, .int 60] w0 (some (.int 1), w0) := by
      refine Ef.in (md := mX5_isFrom) (L := [some (.int a2), some (.int 1), some (.int 60)]) rfl (Nat.le_of_ble_eq_true rfl) rfl ?_
      refine E_iload_n rfl rfl ?_
      refine E_iload_n rfl rfl ?_
      refine E_ic (t := 14) (b := false) rfl rfl ((cn_lt (rfl : (a2).toInt = (a2).toInt) (by decide : (1 : Int32).toInt = 1)).trans (decide_eq_false (by omega))) ?_
      refine E_iload_n rfl rfl ?_
      refine E_iload_n rfl rfl ?_
      refine E_ic (t := 14) (b := false) rfl rfl ((cn_gt (rfl : (a2).toInt = (a2).toInt) (by decide : (60 : Int32).toInt = 60)).trans (decide_eq_false (by omega))) ?_
      refine E_iconst (x := 1) rfl (by decide) ?_
      refine E_goto (t := 15) rfl rfl ?_
      exact E_iret rfl rfl
    refine E_callS (v := some (.int 1)) (As := [.int a2, .int 1, .int 60]) (r0 := []) (cs2 := w0) rfl rfl rfl (Nat.le_of_ble_eq_true rfl) rfl e7 (by decide) rfl ?_
    refine E_if (t := 30) (b := true) rfl rfl (by decide) ?_
    refine E_aload_n rfl rfl ?_
    refine E_getfield (v := .ref 1) rfl rfl rfl (by decide) rfl ?_
    refine E_getfield (v := .ref 10) rfl rfl rfl (by decide) rfl ?_
    refine E_iload_n rfl rfl ?_
    refine E_iaload (x := 8) (j := 3) rfl rfl (by decide) (by decide) rfl ?_
    refine E_istore_n (L2 := [some (.ref 0), some (.int 3), some (.int a2), some (.int 8)]) rfl rfl ?_
    refine E_aload_n rfl rfl ?_
    refine E_getfield (v := .ref 1) rfl rfl rfl (by decide) rfl ?_
    refine E_getfield (v := .ref 10) rfl rfl rfl (by decide) rfl ?_
    refine E_iload_n rfl rfl ?_
    refine E_iload_n rfl rfl ?_
    refine E_iastore (j := 3) (cs2 := (w0.set 10 (.inl [5, 6, 7, a2, 9, 10, 11, 12]))) rfl rfl (by decide) (by decide) (Nat.le_of_ble_eq_true rfl) rfl ?_
    refine E_iload_n rfl rfl ?_
    exact E_iret rfl rfl, by
    refine Ef.in (md := mX6_cost) (L := [some (.ref 65), some (.int 3), some (.int a2), none]) rfl (Nat.le_of_ble_eq_true rfl) rfl ?_
    refine E_aload_n rfl rfl ?_
    refine E_iload_n rfl rfl ?_
    refine E_iconst (x := 0) rfl (by decide) ?_
    refine E_bipush (x := 7) rfl (by decide) ?_
    have e5 : Ev ab_Z0 1 134 [.ref 65, .int 3, .int 0, .int 7] (w0.set 10 (.inl [5, 6, 7, a2, 9, 10, 11, 12])) (some (.int 1), (w0.set 10 (.inl [5, 6, 7, a2, 9, 10, 11, 12]))) := by
      refine Ef.in (md := mX6_isFrom) (L := [some (.ref 65), some (.int 3), some (.int 0), some (.int 7)]) rfl (Nat.le_of_ble_eq_true rfl) rfl ?_
      refine E_iload_n rfl rfl ?_
      refine E_iload_n rfl rfl ?_
      refine E_ic (t := 14) (b := false) rfl rfl (by decide) ?_
      refine E_iload_n rfl rfl ?_
      refine E_iload_n rfl rfl ?_
      refine E_ic (t := 14) (b := false) rfl rfl (by decide) ?_
      refine E_iconst (x := 1) rfl (by decide) ?_
      refine E_goto (t := 15) rfl rfl ?_
      exact E_iret rfl rfl
    refine E_callV (v := some (.int 1)) (As := [.ref 65, .int 3, .int 0, .int 7]) (r0 := []) (cs2 := (w0.set 10 (.inl [5, 6, 7, a2, 9, 10, 11, 12]))) rfl rfl rfl (Nat.le_of_ble_eq_true rfl) rfl rfl e5 (by decide) rfl ?_
    refine E_if (t := 17) (b := true) rfl rfl (by decide) ?_
    refine E_aload_n rfl rfl ?_
    refine E_iload_n rfl rfl ?_
    refine E_iconst (x := 1) rfl (by decide) ?_
    refine E_bipush (x := 60) rfl (by decide) ?_
    have e22 : Ev ab_Z0 1 134 [.ref 65, .int a2, .int 1, .int 60] (w0.set 10 (.inl [5, 6, 7, a2, 9, 10, 11, 12])) (some (.int 1), (w0.set 10 (.inl [5, 6, 7, a2, 9, 10, 11, 12]))) := by
      refine Ef.in (md := mX6_isFrom) (L := [some (.ref 65), some (.int a2), some (.int 1), some (.int 60)]) rfl (Nat.le_of_ble_eq_true rfl) rfl ?_
      refine E_iload_n rfl rfl ?_
      refine E_iload_n rfl rfl ?_
      refine E_ic (t := 14) (b := false) rfl rfl ((cn_lt (rfl : (a2).toInt = (a2).toInt) (by decide : (1 : Int32).toInt = 1)).trans (decide_eq_false (by omega))) ?_
      refine E_iload_n rfl rfl ?_
      refine E_iload_n rfl rfl ?_
      refine E_ic (t := 14) (b := false) rfl rfl ((cn_gt (rfl : (a2).toInt = (a2).toInt) (by decide : (60 : Int32).toInt = 60)).trans (decide_eq_false (by omega))) ?_
      refine E_iconst (x := 1) rfl (by decide) ?_
      refine E_goto (t := 15) rfl rfl ?_
      exact E_iret rfl rfl
    refine E_callV (v := some (.int 1)) (As := [.ref 65, .int a2, .int 1, .int 60]) (r0 := []) (cs2 := (w0.set 10 (.inl [5, 6, 7, a2, 9, 10, 11, 12]))) rfl rfl rfl (Nat.le_of_ble_eq_true rfl) rfl rfl e22 (by decide) rfl ?_
    refine E_if (t := 35) (b := true) rfl rfl (by decide) ?_
    refine E_aload_n rfl rfl ?_
    refine E_getfield (v := .ref 75) rfl rfl rfl (by decide) rfl ?_
    refine E_iload_n rfl rfl ?_
    refine E_iaload (x := 8) (j := 3) rfl rfl (by decide) (by decide) rfl ?_
    refine E_istore_n (L2 := [some (.ref 65), some (.int 3), some (.int a2), some (.int 8)]) rfl rfl ?_
    refine E_aload_n rfl rfl ?_
    refine E_getfield (v := .ref 75) rfl rfl rfl (by decide) rfl ?_
    refine E_iload_n rfl rfl ?_
    refine E_iload_n rfl rfl ?_
    refine E_iastore (j := 3) (cs2 := ((w0.set 10 (.inl [5, 6, 7, a2, 9, 10, 11, 12])).set 75 (.inl [5, 6, 7, a2, 9, 10, 11, 12]))) rfl rfl (by decide) (by decide) (Nat.le_of_ble_eq_true rfl) rfl ?_
    refine E_iload_n rfl rfl ?_
    exact E_iret rfl rfl, (by simp only [List.length_set]; rfl), (by simp only [List.length_set]; rfl), ((ab_szs rfl).trans ((ab_szs rfl).trans rfl)), fun _ => rfl⟩
theorem f_cost_7 (a2 : Int32) (ha2l : (1 : Int) ≤ a2.toInt) (ha2h : a2.toInt ≤ 60) : p1_P 3 85 2 150 [.ref 0, .int 4, .int a2] [.ref 65, .int 4, .int a2] :=
  ⟨9, (w0.set 10 (.inl [5, 6, 7, 8, a2, 10, 11, 12])), ((w0.set 10 (.inl [5, 6, 7, 8, a2, 10, 11, 12])).set 75 (.inl [5, 6, 7, 8, a2, 10, 11, 12])), by
    refine Ef.in (md := mX5_cost) (L := [some (.ref 0), some (.int 4), some (.int a2), none]) rfl (Nat.le_of_ble_eq_true rfl) rfl ?_
    refine E_iload_n rfl rfl ?_
    refine E_callS (v := some (.int 1)) (As := [.int 4]) (r0 := []) (cs2 := w0) rfl rfl rfl (Nat.le_of_ble_eq_true rfl) rfl c190_X4_isWish (by decide) rfl ?_
    refine E_if (t := 13) (b := true) rfl rfl (by decide) ?_
    refine E_iload_n rfl rfl ?_
    refine E_iconst (x := 1) rfl (by decide) ?_
    refine E_bipush (x := 60) rfl (by decide) ?_
    have e7 : Ev ab_Z0 1 115 [.int a2, .int 1, .int 60] w0 (some (.int 1), w0) := by
      refine Ef.in (md := mX5_isFrom) (L := [some (.int a2), some (.int 1), some (.int 60)]) rfl (Nat.le_of_ble_eq_true rfl) rfl ?_
      refine E_iload_n rfl rfl ?_
      refine E_iload_n rfl rfl ?_
      refine E_ic (t := 14) (b := false) rfl rfl ((cn_lt (rfl : (a2).toInt = (a2).toInt) (by decide : (1 : Int32).toInt = 1)).trans (decide_eq_false (by omega))) ?_
      refine E_iload_n rfl rfl ?_
      refine E_iload_n rfl rfl ?_
      refine E_ic (t := 14) (b := false) rfl rfl ((cn_gt (rfl : (a2).toInt = (a2).toInt) (by decide : (60 : Int32).toInt = 60)).trans (decide_eq_false (by omega))) ?_
      refine E_iconst (x := 1) rfl (by decide) ?_
      refine E_goto (t := 15) rfl rfl ?_
      exact E_iret rfl rfl
    refine E_callS (v := some (.int 1)) (As := [.int a2, .int 1, .int 60]) (r0 := []) (cs2 := w0) rfl rfl rfl (Nat.le_of_ble_eq_true rfl) rfl e7 (by decide) rfl ?_
    refine E_if (t := 30) (b := true) rfl rfl (by decide) ?_
    refine E_aload_n rfl rfl ?_
    refine E_getfield (v := .ref 1) rfl rfl rfl (by decide) rfl ?_
    refine E_getfield (v := .ref 10) rfl rfl rfl (by decide) rfl ?_
    refine E_iload_n rfl rfl ?_
    refine E_iaload (x := 9) (j := 4) rfl rfl (by decide) (by decide) rfl ?_
    refine E_istore_n (L2 := [some (.ref 0), some (.int 4), some (.int a2), some (.int 9)]) rfl rfl ?_
    refine E_aload_n rfl rfl ?_
    refine E_getfield (v := .ref 1) rfl rfl rfl (by decide) rfl ?_
    refine E_getfield (v := .ref 10) rfl rfl rfl (by decide) rfl ?_
    refine E_iload_n rfl rfl ?_
    refine E_iload_n rfl rfl ?_
    refine E_iastore (j := 4) (cs2 := (w0.set 10 (.inl [5, 6, 7, 8, a2, 10, 11, 12]))) rfl rfl (by decide) (by decide) (Nat.le_of_ble_eq_true rfl) rfl ?_
    refine E_iload_n rfl rfl ?_
    exact E_iret rfl rfl, by
    refine Ef.in (md := mX6_cost) (L := [some (.ref 65), some (.int 4), some (.int a2), none]) rfl (Nat.le_of_ble_eq_true rfl) rfl ?_
    refine E_aload_n rfl rfl ?_
    refine E_iload_n rfl rfl ?_
    refine E_iconst (x := 0) rfl (by decide) ?_
    refine E_bipush (x := 7) rfl (by decide) ?_
    have e5 : Ev ab_Z0 1 134 [.ref 65, .int 4, .int 0, .int 7] (w0.set 10 (.inl [5, 6, 7, 8, a2, 10, 11, 12])) (some (.int 1), (w0.set 10 (.inl [5, 6, 7, 8, a2, 10, 11, 12]))) := by
      refine Ef.in (md := mX6_isFrom) (L := [some (.ref 65), some (.int 4), some (.int 0), some (.int 7)]) rfl (Nat.le_of_ble_eq_true rfl) rfl ?_
      refine E_iload_n rfl rfl ?_
      refine E_iload_n rfl rfl ?_
      refine E_ic (t := 14) (b := false) rfl rfl (by decide) ?_
      refine E_iload_n rfl rfl ?_
      refine E_iload_n rfl rfl ?_
      refine E_ic (t := 14) (b := false) rfl rfl (by decide) ?_
      refine E_iconst (x := 1) rfl (by decide) ?_
      refine E_goto (t := 15) rfl rfl ?_
      exact E_iret rfl rfl
    refine E_callV (v := some (.int 1)) (As := [.ref 65, .int 4, .int 0, .int 7]) (r0 := []) (cs2 := (w0.set 10 (.inl [5, 6, 7, 8, a2, 10, 11, 12]))) rfl rfl rfl (Nat.le_of_ble_eq_true rfl) rfl rfl e5 (by decide) rfl ?_
    refine E_if (t := 17) (b := true) rfl rfl (by decide) ?_
    refine E_aload_n rfl rfl ?_
    refine E_iload_n rfl rfl ?_
    refine E_iconst (x := 1) rfl (by decide) ?_
    refine E_bipush (x := 60) rfl (by decide) ?_
    have e22 : Ev ab_Z0 1 134 [.ref 65, .int a2, .int 1, .int 60] (w0.set 10 (.inl [5, 6, 7, 8, a2, 10, 11, 12])) (some (.int 1), (w0.set 10 (.inl [5, 6, 7, 8, a2, 10, 11, 12]))) := by
      refine Ef.in (md := mX6_isFrom) (L := [some (.ref 65), some (.int a2), some (.int 1), some (.int 60)]) rfl (Nat.le_of_ble_eq_true rfl) rfl ?_
      refine E_iload_n rfl rfl ?_
      refine E_iload_n rfl rfl ?_
      refine E_ic (t := 14) (b := false) rfl rfl ((cn_lt (rfl : (a2).toInt = (a2).toInt) (by decide : (1 : Int32).toInt = 1)).trans (decide_eq_false (by omega))) ?_
      refine E_iload_n rfl rfl ?_
      refine E_iload_n rfl rfl ?_
      refine E_ic (t := 14) (b := false) rfl rfl ((cn_gt (rfl : (a2).toInt = (a2).toInt) (by decide : (60 : Int32).toInt = 60)).trans (decide_eq_false (by omega))) ?_
      refine E_iconst (x := 1) rfl (by decide) ?_
      refine E_goto (t := 15) rfl rfl ?_
      exact E_iret rfl rfl
    refine E_callV (v := some (.int 1)) (As := [.ref 65, .int a2, .int 1, .int 60]) (r0 := []) (cs2 := (w0.set 10 (.inl [5, 6, 7, 8, a2, 10, 11, 12]))) rfl rfl rfl (Nat.le_of_ble_eq_true rfl) rfl rfl e22 (by decide) rfl ?_
    refine E_if (t := 35) (b := true) rfl rfl (by decide) ?_
    refine E_aload_n rfl rfl ?_
    refine E_getfield (v := .ref 75) rfl rfl rfl (by decide) rfl ?_
    refine E_iload_n rfl rfl ?_
    refine E_iaload (x := 9) (j := 4) rfl rfl (by decide) (by decide) rfl ?_
    refine E_istore_n (L2 := [some (.ref 65), some (.int 4), some (.int a2), some (.int 9)]) rfl rfl ?_
    refine E_aload_n rfl rfl ?_
    refine E_getfield (v := .ref 75) rfl rfl rfl (by decide) rfl ?_
    refine E_iload_n rfl rfl ?_
    refine E_iload_n rfl rfl ?_
    refine E_iastore (j := 4) (cs2 := ((w0.set 10 (.inl [5, 6, 7, 8, a2, 10, 11, 12])).set 75 (.inl [5, 6, 7, 8, a2, 10, 11, 12]))) rfl rfl (by decide) (by decide) (Nat.le_of_ble_eq_true rfl) rfl ?_
    refine E_iload_n rfl rfl ?_
    exact E_iret rfl rfl, (by simp only [List.length_set]; rfl), (by simp only [List.length_set]; rfl), ((ab_szs rfl).trans ((ab_szs rfl).trans rfl)), fun _ => rfl⟩
theorem f_cost_8 (a2 : Int32) (ha2l : (1 : Int) ≤ a2.toInt) (ha2h : a2.toInt ≤ 60) : p1_P 3 85 2 150 [.ref 0, .int 5, .int a2] [.ref 65, .int 5, .int a2] :=
  ⟨10, (w0.set 10 (.inl [5, 6, 7, 8, 9, a2, 11, 12])), ((w0.set 10 (.inl [5, 6, 7, 8, 9, a2, 11, 12])).set 75 (.inl [5, 6, 7, 8, 9, a2, 11, 12])), by
    refine Ef.in (md := mX5_cost) (L := [some (.ref 0), some (.int 5), some (.int a2), none]) rfl (Nat.le_of_ble_eq_true rfl) rfl ?_
    refine E_iload_n rfl rfl ?_
    refine E_callS (v := some (.int 1)) (As := [.int 5]) (r0 := []) (cs2 := w0) rfl rfl rfl (Nat.le_of_ble_eq_true rfl) rfl c191_X4_isWish (by decide) rfl ?_
    refine E_if (t := 13) (b := true) rfl rfl (by decide) ?_
    refine E_iload_n rfl rfl ?_
    refine E_iconst (x := 1) rfl (by decide) ?_
    refine E_bipush (x := 60) rfl (by decide) ?_
    have e7 : Ev ab_Z0 1 115 [.int a2, .int 1, .int 60] w0 (some (.int 1), w0) := by
      refine Ef.in (md := mX5_isFrom) (L := [some (.int a2), some (.int 1), some (.int 60)]) rfl (Nat.le_of_ble_eq_true rfl) rfl ?_
      refine E_iload_n rfl rfl ?_
      refine E_iload_n rfl rfl ?_
      refine E_ic (t := 14) (b := false) rfl rfl ((cn_lt (rfl : (a2).toInt = (a2).toInt) (by decide : (1 : Int32).toInt = 1)).trans (decide_eq_false (by omega))) ?_
      refine E_iload_n rfl rfl ?_
      refine E_iload_n rfl rfl ?_
      refine E_ic (t := 14) (b := false) rfl rfl ((cn_gt (rfl : (a2).toInt = (a2).toInt) (by decide : (60 : Int32).toInt = 60)).trans (decide_eq_false (by omega))) ?_
      refine E_iconst (x := 1) rfl (by decide) ?_
      refine E_goto (t := 15) rfl rfl ?_
      exact E_iret rfl rfl
    refine E_callS (v := some (.int 1)) (As := [.int a2, .int 1, .int 60]) (r0 := []) (cs2 := w0) rfl rfl rfl (Nat.le_of_ble_eq_true rfl) rfl e7 (by decide) rfl ?_
    refine E_if (t := 30) (b := true) rfl rfl (by decide) ?_
    refine E_aload_n rfl rfl ?_
    refine E_getfield (v := .ref 1) rfl rfl rfl (by decide) rfl ?_
    refine E_getfield (v := .ref 10) rfl rfl rfl (by decide) rfl ?_
    refine E_iload_n rfl rfl ?_
    refine E_iaload (x := 10) (j := 5) rfl rfl (by decide) (by decide) rfl ?_
    refine E_istore_n (L2 := [some (.ref 0), some (.int 5), some (.int a2), some (.int 10)]) rfl rfl ?_
    refine E_aload_n rfl rfl ?_
    refine E_getfield (v := .ref 1) rfl rfl rfl (by decide) rfl ?_
    refine E_getfield (v := .ref 10) rfl rfl rfl (by decide) rfl ?_
    refine E_iload_n rfl rfl ?_
    refine E_iload_n rfl rfl ?_
    refine E_iastore (j := 5) (cs2 := (w0.set 10 (.inl [5, 6, 7, 8, 9, a2, 11, 12]))) rfl rfl (by decide) (by decide) (Nat.le_of_ble_eq_true rfl) rfl ?_
    refine E_iload_n rfl rfl ?_
    exact E_iret rfl rfl, by
    refine Ef.in (md := mX6_cost) (L := [some (.ref 65), some (.int 5), some (.int a2), none]) rfl (Nat.le_of_ble_eq_true rfl) rfl ?_
    refine E_aload_n rfl rfl ?_
    refine E_iload_n rfl rfl ?_
    refine E_iconst (x := 0) rfl (by decide) ?_
    refine E_bipush (x := 7) rfl (by decide) ?_
    have e5 : Ev ab_Z0 1 134 [.ref 65, .int 5, .int 0, .int 7] (w0.set 10 (.inl [5, 6, 7, 8, 9, a2, 11, 12])) (some (.int 1), (w0.set 10 (.inl [5, 6, 7, 8, 9, a2, 11, 12]))) := by
      refine Ef.in (md := mX6_isFrom) (L := [some (.ref 65), some (.int 5), some (.int 0), some (.int 7)]) rfl (Nat.le_of_ble_eq_true rfl) rfl ?_
      refine E_iload_n rfl rfl ?_
      refine E_iload_n rfl rfl ?_
      refine E_ic (t := 14) (b := false) rfl rfl (by decide) ?_
      refine E_iload_n rfl rfl ?_
      refine E_iload_n rfl rfl ?_
      refine E_ic (t := 14) (b := false) rfl rfl (by decide) ?_
      refine E_iconst (x := 1) rfl (by decide) ?_
      refine E_goto (t := 15) rfl rfl ?_
      exact E_iret rfl rfl
    refine E_callV (v := some (.int 1)) (As := [.ref 65, .int 5, .int 0, .int 7]) (r0 := []) (cs2 := (w0.set 10 (.inl [5, 6, 7, 8, 9, a2, 11, 12]))) rfl rfl rfl (Nat.le_of_ble_eq_true rfl) rfl rfl e5 (by decide) rfl ?_
    refine E_if (t := 17) (b := true) rfl rfl (by decide) ?_
    refine E_aload_n rfl rfl ?_
    refine E_iload_n rfl rfl ?_
    refine E_iconst (x := 1) rfl (by decide) ?_
    refine E_bipush (x := 60) rfl (by decide) ?_
    have e22 : Ev ab_Z0 1 134 [.ref 65, .int a2, .int 1, .int 60] (w0.set 10 (.inl [5, 6, 7, 8, 9, a2, 11, 12])) (some (.int 1), (w0.set 10 (.inl [5, 6, 7, 8, 9, a2, 11, 12]))) := by
      refine Ef.in (md := mX6_isFrom) (L := [some (.ref 65), some (.int a2), some (.int 1), some (.int 60)]) rfl (Nat.le_of_ble_eq_true rfl) rfl ?_
      refine E_iload_n rfl rfl ?_
      refine E_iload_n rfl rfl ?_
      refine E_ic (t := 14) (b := false) rfl rfl ((cn_lt (rfl : (a2).toInt = (a2).toInt) (by decide : (1 : Int32).toInt = 1)).trans (decide_eq_false (by omega))) ?_
      refine E_iload_n rfl rfl ?_
      refine E_iload_n rfl rfl ?_
      refine E_ic (t := 14) (b := false) rfl rfl ((cn_gt (rfl : (a2).toInt = (a2).toInt) (by decide : (60 : Int32).toInt = 60)).trans (decide_eq_false (by omega))) ?_
      refine E_iconst (x := 1) rfl (by decide) ?_
      refine E_goto (t := 15) rfl rfl ?_
      exact E_iret rfl rfl
    refine E_callV (v := some (.int 1)) (As := [.ref 65, .int a2, .int 1, .int 60]) (r0 := []) (cs2 := (w0.set 10 (.inl [5, 6, 7, 8, 9, a2, 11, 12]))) rfl rfl rfl (Nat.le_of_ble_eq_true rfl) rfl rfl e22 (by decide) rfl ?_
    refine E_if (t := 35) (b := true) rfl rfl (by decide) ?_
    refine E_aload_n rfl rfl ?_
    refine E_getfield (v := .ref 75) rfl rfl rfl (by decide) rfl ?_
    refine E_iload_n rfl rfl ?_
    refine E_iaload (x := 10) (j := 5) rfl rfl (by decide) (by decide) rfl ?_
    refine E_istore_n (L2 := [some (.ref 65), some (.int 5), some (.int a2), some (.int 10)]) rfl rfl ?_
    refine E_aload_n rfl rfl ?_
    refine E_getfield (v := .ref 75) rfl rfl rfl (by decide) rfl ?_
    refine E_iload_n rfl rfl ?_
    refine E_iload_n rfl rfl ?_
    refine E_iastore (j := 5) (cs2 := ((w0.set 10 (.inl [5, 6, 7, 8, 9, a2, 11, 12])).set 75 (.inl [5, 6, 7, 8, 9, a2, 11, 12]))) rfl rfl (by decide) (by decide) (Nat.le_of_ble_eq_true rfl) rfl ?_
    refine E_iload_n rfl rfl ?_
    exact E_iret rfl rfl, (by simp only [List.length_set]; rfl), (by simp only [List.length_set]; rfl), ((ab_szs rfl).trans ((ab_szs rfl).trans rfl)), fun _ => rfl⟩
theorem f_cost_9 (a2 : Int32) (ha2l : (1 : Int) ≤ a2.toInt) (ha2h : a2.toInt ≤ 60) : p1_P 3 85 2 150 [.ref 0, .int 6, .int a2] [.ref 65, .int 6, .int a2] :=
  ⟨11, (w0.set 10 (.inl [5, 6, 7, 8, 9, 10, a2, 12])), ((w0.set 10 (.inl [5, 6, 7, 8, 9, 10, a2, 12])).set 75 (.inl [5, 6, 7, 8, 9, 10, a2, 12])), by
    refine Ef.in (md := mX5_cost) (L := [some (.ref 0), some (.int 6), some (.int a2), none]) rfl (Nat.le_of_ble_eq_true rfl) rfl ?_
    refine E_iload_n rfl rfl ?_
    refine E_callS (v := some (.int 1)) (As := [.int 6]) (r0 := []) (cs2 := w0) rfl rfl rfl (Nat.le_of_ble_eq_true rfl) rfl c192_X4_isWish (by decide) rfl ?_
    refine E_if (t := 13) (b := true) rfl rfl (by decide) ?_
    refine E_iload_n rfl rfl ?_
    refine E_iconst (x := 1) rfl (by decide) ?_
    refine E_bipush (x := 60) rfl (by decide) ?_
    have e7 : Ev ab_Z0 1 115 [.int a2, .int 1, .int 60] w0 (some (.int 1), w0) := by
      refine Ef.in (md := mX5_isFrom) (L := [some (.int a2), some (.int 1), some (.int 60)]) rfl (Nat.le_of_ble_eq_true rfl) rfl ?_
      refine E_iload_n rfl rfl ?_
      refine E_iload_n rfl rfl ?_
      refine E_ic (t := 14) (b := false) rfl rfl ((cn_lt (rfl : (a2).toInt = (a2).toInt) (by decide : (1 : Int32).toInt = 1)).trans (decide_eq_false (by omega))) ?_
      refine E_iload_n rfl rfl ?_
      refine E_iload_n rfl rfl ?_
      refine E_ic (t := 14) (b := false) rfl rfl ((cn_gt (rfl : (a2).toInt = (a2).toInt) (by decide : (60 : Int32).toInt = 60)).trans (decide_eq_false (by omega))) ?_
      refine E_iconst (x := 1) rfl (by decide) ?_
      refine E_goto (t := 15) rfl rfl ?_
      exact E_iret rfl rfl
    refine E_callS (v := some (.int 1)) (As := [.int a2, .int 1, .int 60]) (r0 := []) (cs2 := w0) rfl rfl rfl (Nat.le_of_ble_eq_true rfl) rfl e7 (by decide) rfl ?_
    refine E_if (t := 30) (b := true) rfl rfl (by decide) ?_
    refine E_aload_n rfl rfl ?_
    refine E_getfield (v := .ref 1) rfl rfl rfl (by decide) rfl ?_
    refine E_getfield (v := .ref 10) rfl rfl rfl (by decide) rfl ?_
    refine E_iload_n rfl rfl ?_
    refine E_iaload (x := 11) (j := 6) rfl rfl (by decide) (by decide) rfl ?_
    refine E_istore_n (L2 := [some (.ref 0), some (.int 6), some (.int a2), some (.int 11)]) rfl rfl ?_
    refine E_aload_n rfl rfl ?_
    refine E_getfield (v := .ref 1) rfl rfl rfl (by decide) rfl ?_
    refine E_getfield (v := .ref 10) rfl rfl rfl (by decide) rfl ?_
    refine E_iload_n rfl rfl ?_
    refine E_iload_n rfl rfl ?_
    refine E_iastore (j := 6) (cs2 := (w0.set 10 (.inl [5, 6, 7, 8, 9, 10, a2, 12]))) rfl rfl (by decide) (by decide) (Nat.le_of_ble_eq_true rfl) rfl ?_
    refine E_iload_n rfl rfl ?_
    exact E_iret rfl rfl, by
    refine Ef.in (md := mX6_cost) (L := [some (.ref 65), some (.int 6), some (.int a2), none]) rfl (Nat.le_of_ble_eq_true rfl) rfl ?_
    refine E_aload_n rfl rfl ?_
    refine E_iload_n rfl rfl ?_
    refine E_iconst (x := 0) rfl (by decide) ?_
    refine E_bipush (x := 7) rfl (by decide) ?_
    have e5 : Ev ab_Z0 1 134 [.ref 65, .int 6, .int 0, .int 7] (w0.set 10 (.inl [5, 6, 7, 8, 9, 10, a2, 12])) (some (.int 1), (w0.set 10 (.inl [5, 6, 7, 8, 9, 10, a2, 12]))) := by
      refine Ef.in (md := mX6_isFrom) (L := [some (.ref 65), some (.int 6), some (.int 0), some (.int 7)]) rfl (Nat.le_of_ble_eq_true rfl) rfl ?_
      refine E_iload_n rfl rfl ?_
      refine E_iload_n rfl rfl ?_
      refine E_ic (t := 14) (b := false) rfl rfl (by decide) ?_
      refine E_iload_n rfl rfl ?_
      refine E_iload_n rfl rfl ?_
      refine E_ic (t := 14) (b := false) rfl rfl (by decide) ?_
      refine E_iconst (x := 1) rfl (by decide) ?_
      refine E_goto (t := 15) rfl rfl ?_
      exact E_iret rfl rfl
    refine E_callV (v := some (.int 1)) (As := [.ref 65, .int 6, .int 0, .int 7]) (r0 := []) (cs2 := (w0.set 10 (.inl [5, 6, 7, 8, 9, 10, a2, 12]))) rfl rfl rfl (Nat.le_of_ble_eq_true rfl) rfl rfl e5 (by decide) rfl ?_
    refine E_if (t := 17) (b := true) rfl rfl (by decide) ?_
    refine E_aload_n rfl rfl ?_
    refine E_iload_n rfl rfl ?_
    refine E_iconst (x := 1) rfl (by decide) ?_
    refine E_bipush (x := 60) rfl (by decide) ?_
    have e22 : Ev ab_Z0 1 134 [.ref 65, .int a2, .int 1, .int 60] (w0.set 10 (.inl [5, 6, 7, 8, 9, 10, a2, 12])) (some (.int 1), (w0.set 10 (.inl [5, 6, 7, 8, 9, 10, a2, 12]))) := by
      refine Ef.in (md := mX6_isFrom) (L := [some (.ref 65), some (.int a2), some (.int 1), some (.int 60)]) rfl (Nat.le_of_ble_eq_true rfl) rfl ?_
      refine E_iload_n rfl rfl ?_
      refine E_iload_n rfl rfl ?_
      refine E_ic (t := 14) (b := false) rfl rfl ((cn_lt (rfl : (a2).toInt = (a2).toInt) (by decide : (1 : Int32).toInt = 1)).trans (decide_eq_false (by omega))) ?_
      refine E_iload_n rfl rfl ?_
      refine E_iload_n rfl rfl ?_
      refine E_ic (t := 14) (b := false) rfl rfl ((cn_gt (rfl : (a2).toInt = (a2).toInt) (by decide : (60 : Int32).toInt = 60)).trans (decide_eq_false (by omega))) ?_
      refine E_iconst (x := 1) rfl (by decide) ?_
      refine E_goto (t := 15) rfl rfl ?_
      exact E_iret rfl rfl
    refine E_callV (v := some (.int 1)) (As := [.ref 65, .int a2, .int 1, .int 60]) (r0 := []) (cs2 := (w0.set 10 (.inl [5, 6, 7, 8, 9, 10, a2, 12]))) rfl rfl rfl (Nat.le_of_ble_eq_true rfl) rfl rfl e22 (by decide) rfl ?_
    refine E_if (t := 35) (b := true) rfl rfl (by decide) ?_
    refine E_aload_n rfl rfl ?_
    refine E_getfield (v := .ref 75) rfl rfl rfl (by decide) rfl ?_
    refine E_iload_n rfl rfl ?_
    refine E_iaload (x := 11) (j := 6) rfl rfl (by decide) (by decide) rfl ?_
    refine E_istore_n (L2 := [some (.ref 65), some (.int 6), some (.int a2), some (.int 11)]) rfl rfl ?_
    refine E_aload_n rfl rfl ?_
    refine E_getfield (v := .ref 75) rfl rfl rfl (by decide) rfl ?_
    refine E_iload_n rfl rfl ?_
    refine E_iload_n rfl rfl ?_
    refine E_iastore (j := 6) (cs2 := ((w0.set 10 (.inl [5, 6, 7, 8, 9, 10, a2, 12])).set 75 (.inl [5, 6, 7, 8, 9, 10, a2, 12]))) rfl rfl (by decide) (by decide) (Nat.le_of_ble_eq_true rfl) rfl ?_
    refine E_iload_n rfl rfl ?_
    exact E_iret rfl rfl, (by simp only [List.length_set]; rfl), (by simp only [List.length_set]; rfl), ((ab_szs rfl).trans ((ab_szs rfl).trans rfl)), fun _ => rfl⟩
theorem f_cost_10 (a2 : Int32) (ha2l : (1 : Int) ≤ a2.toInt) (ha2h : a2.toInt ≤ 60) : p1_P 3 85 2 150 [.ref 0, .int 7, .int a2] [.ref 65, .int 7, .int a2] :=
  ⟨12, (w0.set 10 (.inl [5, 6, 7, 8, 9, 10, 11, a2])), ((w0.set 10 (.inl [5, 6, 7, 8, 9, 10, 11, a2])).set 75 (.inl [5, 6, 7, 8, 9, 10, 11, a2])), by
    refine Ef.in (md := mX5_cost) (L := [some (.ref 0), some (.int 7), some (.int a2), none]) rfl (Nat.le_of_ble_eq_true rfl) rfl ?_
    refine E_iload_n rfl rfl ?_
    refine E_callS (v := some (.int 1)) (As := [.int 7]) (r0 := []) (cs2 := w0) rfl rfl rfl (Nat.le_of_ble_eq_true rfl) rfl c193_X4_isWish (by decide) rfl ?_
    refine E_if (t := 13) (b := true) rfl rfl (by decide) ?_
    refine E_iload_n rfl rfl ?_
    refine E_iconst (x := 1) rfl (by decide) ?_
    refine E_bipush (x := 60) rfl (by decide) ?_
    have e7 : Ev ab_Z0 1 115 [.int a2, .int 1, .int 60] w0 (some (.int 1), w0) := by
      refine Ef.in (md := mX5_isFrom) (L := [some (.int a2), some (.int 1), some (.int 60)]) rfl (Nat.le_of_ble_eq_true rfl) rfl ?_
      refine E_iload_n rfl rfl ?_
      refine E_iload_n rfl rfl ?_
      refine E_ic (t := 14) (b := false) rfl rfl ((cn_lt (rfl : (a2).toInt = (a2).toInt) (by decide : (1 : Int32).toInt = 1)).trans (decide_eq_false (by omega))) ?_
      refine E_iload_n rfl rfl ?_
      refine E_iload_n rfl rfl ?_
      refine E_ic (t := 14) (b := false) rfl rfl ((cn_gt (rfl : (a2).toInt = (a2).toInt) (by decide : (60 : Int32).toInt = 60)).trans (decide_eq_false (by omega))) ?_
      refine E_iconst (x := 1) rfl (by decide) ?_
      refine E_goto (t := 15) rfl rfl ?_
      exact E_iret rfl rfl
    refine E_callS (v := some (.int 1)) (As := [.int a2, .int 1, .int 60]) (r0 := []) (cs2 := w0) rfl rfl rfl (Nat.le_of_ble_eq_true rfl) rfl e7 (by decide) rfl ?_
    refine E_if (t := 30) (b := true) rfl rfl (by decide) ?_
    refine E_aload_n rfl rfl ?_
    refine E_getfield (v := .ref 1) rfl rfl rfl (by decide) rfl ?_
    refine E_getfield (v := .ref 10) rfl rfl rfl (by decide) rfl ?_
    refine E_iload_n rfl rfl ?_
    refine E_iaload (x := 12) (j := 7) rfl rfl (by decide) (by decide) rfl ?_
    refine E_istore_n (L2 := [some (.ref 0), some (.int 7), some (.int a2), some (.int 12)]) rfl rfl ?_
    refine E_aload_n rfl rfl ?_
    refine E_getfield (v := .ref 1) rfl rfl rfl (by decide) rfl ?_
    refine E_getfield (v := .ref 10) rfl rfl rfl (by decide) rfl ?_
    refine E_iload_n rfl rfl ?_
    refine E_iload_n rfl rfl ?_
    refine E_iastore (j := 7) (cs2 := (w0.set 10 (.inl [5, 6, 7, 8, 9, 10, 11, a2]))) rfl rfl (by decide) (by decide) (Nat.le_of_ble_eq_true rfl) rfl ?_
    refine E_iload_n rfl rfl ?_
    exact E_iret rfl rfl, by
    refine Ef.in (md := mX6_cost) (L := [some (.ref 65), some (.int 7), some (.int a2), none]) rfl (Nat.le_of_ble_eq_true rfl) rfl ?_
    refine E_aload_n rfl rfl ?_
    refine E_iload_n rfl rfl ?_
    refine E_iconst (x := 0) rfl (by decide) ?_
    refine E_bipush (x := 7) rfl (by decide) ?_
    have e5 : Ev ab_Z0 1 134 [.ref 65, .int 7, .int 0, .int 7] (w0.set 10 (.inl [5, 6, 7, 8, 9, 10, 11, a2])) (some (.int 1), (w0.set 10 (.inl [5, 6, 7, 8, 9, 10, 11, a2]))) := by
      refine Ef.in (md := mX6_isFrom) (L := [some (.ref 65), some (.int 7), some (.int 0), some (.int 7)]) rfl (Nat.le_of_ble_eq_true rfl) rfl ?_
      refine E_iload_n rfl rfl ?_
      refine E_iload_n rfl rfl ?_
      refine E_ic (t := 14) (b := false) rfl rfl (by decide) ?_
      refine E_iload_n rfl rfl ?_
      refine E_iload_n rfl rfl ?_
      refine E_ic (t := 14) (b := false) rfl rfl (by decide) ?_
      refine E_iconst (x := 1) rfl (by decide) ?_
      refine E_goto (t := 15) rfl rfl ?_
      exact E_iret rfl rfl
    refine E_callV (v := some (.int 1)) (As := [.ref 65, .int 7, .int 0, .int 7]) (r0 := []) (cs2 := (w0.set 10 (.inl [5, 6, 7, 8, 9, 10, 11, a2]))) rfl rfl rfl (Nat.le_of_ble_eq_true rfl) rfl rfl e5 (by decide) rfl ?_
    refine E_if (t := 17) (b := true) rfl rfl (by decide) ?_
    refine E_aload_n rfl rfl ?_
    refine E_iload_n rfl rfl ?_
    refine E_iconst (x := 1) rfl (by decide) ?_
    refine E_bipush (x := 60) rfl (by decide) ?_
    have e22 : Ev ab_Z0 1 134 [.ref 65, .int a2, .int 1, .int 60] (w0.set 10 (.inl [5, 6, 7, 8, 9, 10, 11, a2])) (some (.int 1), (w0.set 10 (.inl [5, 6, 7, 8, 9, 10, 11, a2]))) := by
      refine Ef.in (md := mX6_isFrom) (L := [some (.ref 65), some (.int a2), some (.int 1), some (.int 60)]) rfl (Nat.le_of_ble_eq_true rfl) rfl ?_
      refine E_iload_n rfl rfl ?_
      refine E_iload_n rfl rfl ?_
      refine E_ic (t := 14) (b := false) rfl rfl ((cn_lt (rfl : (a2).toInt = (a2).toInt) (by decide : (1 : Int32).toInt = 1)).trans (decide_eq_false (by omega))) ?_
      refine E_iload_n rfl rfl ?_
      refine E_iload_n rfl rfl ?_
      refine E_ic (t := 14) (b := false) rfl rfl ((cn_gt (rfl : (a2).toInt = (a2).toInt) (by decide : (60 : Int32).toInt = 60)).trans (decide_eq_false (by omega))) ?_
      refine E_iconst (x := 1) rfl (by decide) ?_
      refine E_goto (t := 15) rfl rfl ?_
      exact E_iret rfl rfl
    refine E_callV (v := some (.int 1)) (As := [.ref 65, .int a2, .int 1, .int 60]) (r0 := []) (cs2 := (w0.set 10 (.inl [5, 6, 7, 8, 9, 10, 11, a2]))) rfl rfl rfl (Nat.le_of_ble_eq_true rfl) rfl rfl e22 (by decide) rfl ?_
    refine E_if (t := 35) (b := true) rfl rfl (by decide) ?_
    refine E_aload_n rfl rfl ?_
    refine E_getfield (v := .ref 75) rfl rfl rfl (by decide) rfl ?_
    refine E_iload_n rfl rfl ?_
    refine E_iaload (x := 12) (j := 7) rfl rfl (by decide) (by decide) rfl ?_
    refine E_istore_n (L2 := [some (.ref 65), some (.int 7), some (.int a2), some (.int 12)]) rfl rfl ?_
    refine E_aload_n rfl rfl ?_
    refine E_getfield (v := .ref 75) rfl rfl rfl (by decide) rfl ?_
    refine E_iload_n rfl rfl ?_
    refine E_iload_n rfl rfl ?_
    refine E_iastore (j := 7) (cs2 := ((w0.set 10 (.inl [5, 6, 7, 8, 9, 10, 11, a2])).set 75 (.inl [5, 6, 7, 8, 9, 10, 11, a2]))) rfl rfl (by decide) (by decide) (Nat.le_of_ble_eq_true rfl) rfl ?_
    refine E_iload_n rfl rfl ?_
    exact E_iret rfl rfl, (by simp only [List.length_set]; rfl), (by simp only [List.length_set]; rfl), ((ab_szs rfl).trans ((ab_szs rfl).trans rfl)), fun _ => rfl⟩
theorem f_cost_11 (a1 a2 : Int32) (ha1l : (0 : Int) ≤ a1.toInt) (ha1h : a1.toInt ≤ 7) (ha2l : (61 : Int) ≤ a2.toInt) : p1_P 3 85 2 150 [.ref 0, .int a1, .int a2] [.ref 65, .int a1, .int a2] :=
  ⟨(-6), (w0.set 48 (.inl [0, 0, 0, 0, 0, 0, 1, 0])), ((w0.set 48 (.inl [0, 0, 0, 0, 0, 0, 1, 0])).set 66 (.inl [0, 0, 0, 0, 0, 0, 1, 0])), by
    refine Ef.in (md := mX5_cost) (L := [some (.ref 0), some (.int a1), some (.int a2), none]) rfl (Nat.le_of_ble_eq_true rfl) rfl ?_
    refine E_iload_n rfl rfl ?_
    have e2 : Ev ab_Z0 1 47 [.int a1] w0 (some (.int 1), w0) := by
      refine Ef.in (md := mX4_isWish) (L := [some (.int a1)]) rfl (Nat.le_of_ble_eq_true rfl) rfl ?_
      refine E_iload_n rfl rfl ?_
      refine E_if (t := 14) (b := false) rfl rfl ((cn_lt (rfl : (a1).toInt = (a1).toInt) (by decide : (0 : Int32).toInt = 0)).trans (decide_eq_false (by omega))) ?_
      refine E_iload_n rfl rfl ?_
      refine E_bipush (x := 8) rfl (by decide) ?_
      refine E_ic (t := 14) (b := false) rfl rfl ((cn_ge (rfl : (a1).toInt = (a1).toInt) (by decide : (8 : Int32).toInt = 8)).trans (decide_eq_false (by omega))) ?_
      refine E_iconst (x := 1) rfl (by decide) ?_
      refine E_goto (t := 15) rfl rfl ?_
      exact E_iret rfl rfl
    refine E_callS (v := some (.int 1)) (As := [.int a1]) (r0 := []) (cs2 := w0) rfl rfl rfl (Nat.le_of_ble_eq_true rfl) rfl e2 (by decide) rfl ?_
    refine E_if (t := 13) (b := true) rfl rfl (by decide) ?_
    refine E_iload_n rfl rfl ?_
    refine E_iconst (x := 1) rfl (by decide) ?_
    refine E_bipush (x := 60) rfl (by decide) ?_
    have e17 : Ev ab_Z0 1 115 [.int a2, .int 1, .int 60] w0 (some (.int 0), w0) := by
      refine Ef.in (md := mX5_isFrom) (L := [some (.int a2), some (.int 1), some (.int 60)]) rfl (Nat.le_of_ble_eq_true rfl) rfl ?_
      refine E_iload_n rfl rfl ?_
      refine E_iload_n rfl rfl ?_
      refine E_ic (t := 14) (b := false) rfl rfl ((cn_lt (rfl : (a2).toInt = (a2).toInt) (by decide : (1 : Int32).toInt = 1)).trans (decide_eq_false (by omega))) ?_
      refine E_iload_n rfl rfl ?_
      refine E_iload_n rfl rfl ?_
      refine E_ic (t := 14) (b := true) rfl rfl ((cn_gt (rfl : (a2).toInt = (a2).toInt) (by decide : (60 : Int32).toInt = 60)).trans (decide_eq_true (by omega))) ?_
      refine E_iconst (x := 0) rfl (by decide) ?_
      exact E_iret rfl rfl
    refine E_callS (v := some (.int 0)) (As := [.int a2, .int 1, .int 60]) (r0 := []) (cs2 := w0) rfl rfl rfl (Nat.le_of_ble_eq_true rfl) rfl e17 (by decide) rfl ?_
    refine E_if (t := 30) (b := false) rfl rfl (by decide) ?_
    refine E_aload_n rfl rfl ?_
    refine E_bipush (x := 6) rfl (by decide) ?_
    refine E_callV (v := some (.int (-6))) (As := [.ref 0, .int 6]) (r0 := []) (cs2 := (w0.set 48 (.inl [0, 0, 0, 0, 0, 0, 1, 0]))) rfl rfl rfl (Nat.le_of_ble_eq_true rfl) rfl rfl c7_X5_refuse (by decide) (by simp only [List.length_set]) ?_
    exact E_iret rfl rfl, by
    refine Ef.in (md := mX6_cost) (L := [some (.ref 65), some (.int a1), some (.int a2), none]) rfl (Nat.le_of_ble_eq_true rfl) rfl ?_
    refine E_aload_n rfl rfl ?_
    refine E_iload_n rfl rfl ?_
    refine E_iconst (x := 0) rfl (by decide) ?_
    refine E_bipush (x := 7) rfl (by decide) ?_
    have e5 : Ev ab_Z0 1 134 [.ref 65, .int a1, .int 0, .int 7] (w0.set 48 (.inl [0, 0, 0, 0, 0, 0, 1, 0])) (some (.int 1), (w0.set 48 (.inl [0, 0, 0, 0, 0, 0, 1, 0]))) := by
      refine Ef.in (md := mX6_isFrom) (L := [some (.ref 65), some (.int a1), some (.int 0), some (.int 7)]) rfl (Nat.le_of_ble_eq_true rfl) rfl ?_
      refine E_iload_n rfl rfl ?_
      refine E_iload_n rfl rfl ?_
      refine E_ic (t := 14) (b := false) rfl rfl ((cn_lt (rfl : (a1).toInt = (a1).toInt) (by decide : (0 : Int32).toInt = 0)).trans (decide_eq_false (by omega))) ?_
      refine E_iload_n rfl rfl ?_
      refine E_iload_n rfl rfl ?_
      refine E_ic (t := 14) (b := false) rfl rfl ((cn_gt (rfl : (a1).toInt = (a1).toInt) (by decide : (7 : Int32).toInt = 7)).trans (decide_eq_false (by omega))) ?_
      refine E_iconst (x := 1) rfl (by decide) ?_
      refine E_goto (t := 15) rfl rfl ?_
      exact E_iret rfl rfl
    refine E_callV (v := some (.int 1)) (As := [.ref 65, .int a1, .int 0, .int 7]) (r0 := []) (cs2 := (w0.set 48 (.inl [0, 0, 0, 0, 0, 0, 1, 0]))) rfl rfl rfl (Nat.le_of_ble_eq_true rfl) rfl rfl e5 (by decide) rfl ?_
    refine E_if (t := 17) (b := true) rfl rfl (by decide) ?_
    refine E_aload_n rfl rfl ?_
    refine E_iload_n rfl rfl ?_
    refine E_iconst (x := 1) rfl (by decide) ?_
    refine E_bipush (x := 60) rfl (by decide) ?_
    have e22 : Ev ab_Z0 1 134 [.ref 65, .int a2, .int 1, .int 60] (w0.set 48 (.inl [0, 0, 0, 0, 0, 0, 1, 0])) (some (.int 0), (w0.set 48 (.inl [0, 0, 0, 0, 0, 0, 1, 0]))) := by
      refine Ef.in (md := mX6_isFrom) (L := [some (.ref 65), some (.int a2), some (.int 1), some (.int 60)]) rfl (Nat.le_of_ble_eq_true rfl) rfl ?_
      refine E_iload_n rfl rfl ?_
      refine E_iload_n rfl rfl ?_
      refine E_ic (t := 14) (b := false) rfl rfl ((cn_lt (rfl : (a2).toInt = (a2).toInt) (by decide : (1 : Int32).toInt = 1)).trans (decide_eq_false (by omega))) ?_
      refine E_iload_n rfl rfl ?_
      refine E_iload_n rfl rfl ?_
      refine E_ic (t := 14) (b := true) rfl rfl ((cn_gt (rfl : (a2).toInt = (a2).toInt) (by decide : (60 : Int32).toInt = 60)).trans (decide_eq_true (by omega))) ?_
      refine E_iconst (x := 0) rfl (by decide) ?_
      exact E_iret rfl rfl
    refine E_callV (v := some (.int 0)) (As := [.ref 65, .int a2, .int 1, .int 60]) (r0 := []) (cs2 := (w0.set 48 (.inl [0, 0, 0, 0, 0, 0, 1, 0]))) rfl rfl rfl (Nat.le_of_ble_eq_true rfl) rfl rfl e22 (by decide) rfl ?_
    refine E_if (t := 35) (b := false) rfl rfl (by decide) ?_
    refine E_aload_n rfl rfl ?_
    refine E_bipush (x := (-6)) rfl (by decide) ?_
    refine E_callV (v := some (.int (-6))) (As := [.ref 65, .int (-6)]) (r0 := []) (cs2 := ((w0.set 48 (.inl [0, 0, 0, 0, 0, 0, 1, 0])).set 66 (.inl [0, 0, 0, 0, 0, 0, 1, 0]))) rfl rfl rfl (Nat.le_of_ble_eq_true rfl) rfl rfl c9_X6_no (by decide) (by simp only [List.length_set]) ?_
    exact E_iret rfl rfl, (by simp only [List.length_set]; rfl), (by simp only [List.length_set]; rfl), ((ab_szs rfl).trans ((ab_szs rfl).trans rfl)), fun _ => rfl⟩
theorem f_cost_12 (a1 a2 : Int32) (ha1l : (8 : Int) ≤ a1.toInt) : p1_P 3 85 2 150 [.ref 0, .int a1, .int a2] [.ref 65, .int a1, .int a2] :=
  ⟨(-1), (w0.set 48 (.inl [0, 1, 0, 0, 0, 0, 0, 0])), ((w0.set 48 (.inl [0, 1, 0, 0, 0, 0, 0, 0])).set 66 (.inl [0, 1, 0, 0, 0, 0, 0, 0])), by
    refine Ef.in (md := mX5_cost) (L := [some (.ref 0), some (.int a1), some (.int a2), none]) rfl (Nat.le_of_ble_eq_true rfl) rfl ?_
    refine E_iload_n rfl rfl ?_
    have e2 : Ev ab_Z0 1 47 [.int a1] w0 (some (.int 0), w0) := by
      refine Ef.in (md := mX4_isWish) (L := [some (.int a1)]) rfl (Nat.le_of_ble_eq_true rfl) rfl ?_
      refine E_iload_n rfl rfl ?_
      refine E_if (t := 14) (b := false) rfl rfl ((cn_lt (rfl : (a1).toInt = (a1).toInt) (by decide : (0 : Int32).toInt = 0)).trans (decide_eq_false (by omega))) ?_
      refine E_iload_n rfl rfl ?_
      refine E_bipush (x := 8) rfl (by decide) ?_
      refine E_ic (t := 14) (b := true) rfl rfl ((cn_ge (rfl : (a1).toInt = (a1).toInt) (by decide : (8 : Int32).toInt = 8)).trans (decide_eq_true (by omega))) ?_
      refine E_iconst (x := 0) rfl (by decide) ?_
      exact E_iret rfl rfl
    refine E_callS (v := some (.int 0)) (As := [.int a1]) (r0 := []) (cs2 := w0) rfl rfl rfl (Nat.le_of_ble_eq_true rfl) rfl e2 (by decide) rfl ?_
    refine E_if (t := 13) (b := false) rfl rfl (by decide) ?_
    refine E_aload_n rfl rfl ?_
    refine E_iconst (x := 1) rfl (by decide) ?_
    refine E_callV (v := some (.int (-1))) (As := [.ref 0, .int 1]) (r0 := []) (cs2 := (w0.set 48 (.inl [0, 1, 0, 0, 0, 0, 0, 0]))) rfl rfl rfl (Nat.le_of_ble_eq_true rfl) rfl rfl c1_X5_refuse (by decide) (by simp only [List.length_set]) ?_
    exact E_iret rfl rfl, by
    refine Ef.in (md := mX6_cost) (L := [some (.ref 65), some (.int a1), some (.int a2), none]) rfl (Nat.le_of_ble_eq_true rfl) rfl ?_
    refine E_aload_n rfl rfl ?_
    refine E_iload_n rfl rfl ?_
    refine E_iconst (x := 0) rfl (by decide) ?_
    refine E_bipush (x := 7) rfl (by decide) ?_
    have e5 : Ev ab_Z0 1 134 [.ref 65, .int a1, .int 0, .int 7] (w0.set 48 (.inl [0, 1, 0, 0, 0, 0, 0, 0])) (some (.int 0), (w0.set 48 (.inl [0, 1, 0, 0, 0, 0, 0, 0]))) := by
      refine Ef.in (md := mX6_isFrom) (L := [some (.ref 65), some (.int a1), some (.int 0), some (.int 7)]) rfl (Nat.le_of_ble_eq_true rfl) rfl ?_
      refine E_iload_n rfl rfl ?_
      refine E_iload_n rfl rfl ?_
      refine E_ic (t := 14) (b := false) rfl rfl ((cn_lt (rfl : (a1).toInt = (a1).toInt) (by decide : (0 : Int32).toInt = 0)).trans (decide_eq_false (by omega))) ?_
      refine E_iload_n rfl rfl ?_
      refine E_iload_n rfl rfl ?_
      refine E_ic (t := 14) (b := true) rfl rfl ((cn_gt (rfl : (a1).toInt = (a1).toInt) (by decide : (7 : Int32).toInt = 7)).trans (decide_eq_true (by omega))) ?_
      refine E_iconst (x := 0) rfl (by decide) ?_
      exact E_iret rfl rfl
    refine E_callV (v := some (.int 0)) (As := [.ref 65, .int a1, .int 0, .int 7]) (r0 := []) (cs2 := (w0.set 48 (.inl [0, 1, 0, 0, 0, 0, 0, 0]))) rfl rfl rfl (Nat.le_of_ble_eq_true rfl) rfl rfl e5 (by decide) rfl ?_
    refine E_if (t := 17) (b := false) rfl rfl (by decide) ?_
    refine E_aload_n rfl rfl ?_
    refine E_iconst (x := (-1)) rfl (by decide) ?_
    refine E_callV (v := some (.int (-1))) (As := [.ref 65, .int (-1)]) (r0 := []) (cs2 := ((w0.set 48 (.inl [0, 1, 0, 0, 0, 0, 0, 0])).set 66 (.inl [0, 1, 0, 0, 0, 0, 0, 0]))) rfl rfl rfl (Nat.le_of_ble_eq_true rfl) rfl rfl c3_X6_no (by decide) (by simp only [List.length_set]) ?_
    exact E_iret rfl rfl, (by simp only [List.length_set]; rfl), (by simp only [List.length_set]; rfl), ((ab_szs rfl).trans ((ab_szs rfl).trans rfl)), fun _ => rfl⟩
theorem f_cost (a1 a2 : Int32) : p1_P 3 85 2 150 [.ref 0, .int a1, .int a2] [.ref 65, .int a1, .int a2] := by
  rcases ab_ltge a1.toInt (0) with h | h
  · exact f_cost_1 a1 a2 (by omega)
  rcases ab_ltge a1.toInt (8) with h | h
  · rcases ab_ltge a2.toInt (1) with h | h
    · exact f_cost_2 a1 a2 (by omega) (by omega) (by omega)
    rcases ab_ltge a2.toInt (61) with h | h
    · rcases ab_ltge a1.toInt (1) with h | h
      · obtain rfl : a1 = 0 := Int32.toInt_inj.mp (by rw [show ((0 : Int32).toInt = 0) by decide]; omega)
        exact f_cost_3 a2 (by omega) (by omega)
      rcases ab_ltge a1.toInt (2) with h | h
      · obtain rfl : a1 = 1 := Int32.toInt_inj.mp (by rw [show ((1 : Int32).toInt = 1) by decide]; omega)
        exact f_cost_4 a2 (by omega) (by omega)
      rcases ab_ltge a1.toInt (3) with h | h
      · obtain rfl : a1 = 2 := Int32.toInt_inj.mp (by rw [show ((2 : Int32).toInt = 2) by decide]; omega)
        exact f_cost_5 a2 (by omega) (by omega)
      rcases ab_ltge a1.toInt (4) with h | h
      · obtain rfl : a1 = 3 := Int32.toInt_inj.mp (by rw [show ((3 : Int32).toInt = 3) by decide]; omega)
        exact f_cost_6 a2 (by omega) (by omega)
      rcases ab_ltge a1.toInt (5) with h | h
      · obtain rfl : a1 = 4 := Int32.toInt_inj.mp (by rw [show ((4 : Int32).toInt = 4) by decide]; omega)
        exact f_cost_7 a2 (by omega) (by omega)
      rcases ab_ltge a1.toInt (6) with h | h
      · obtain rfl : a1 = 5 := Int32.toInt_inj.mp (by rw [show ((5 : Int32).toInt = 5) by decide]; omega)
        exact f_cost_8 a2 (by omega) (by omega)
      rcases ab_ltge a1.toInt (7) with h | h
      · obtain rfl : a1 = 6 := Int32.toInt_inj.mp (by rw [show ((6 : Int32).toInt = 6) by decide]; omega)
        exact f_cost_9 a2 (by omega) (by omega)
      obtain rfl : a1 = 7 := Int32.toInt_inj.mp (by rw [show ((7 : Int32).toInt = 7) by decide]; omega)
      exact f_cost_10 a2 (by omega) (by omega)
    exact f_cost_11 a1 a2 (by omega) (by omega) (by omega)
  exact f_cost_12 a1 a2 (by omega)
