theorem c184_X4_hasRoomForPiece : Ev ab_Z0 1 52 [.ref 1] w0 (some (.int 1), w0) := by
  refine Ef.in (md := mX4_hasRoomForPiece) (L := [some (.ref 1)]) rfl (Nat.le_of_ble_eq_true rfl) rfl ?_
  refine E_aload_n rfl rfl ?_
  refine E_getfield (v := .int 0) rfl rfl rfl (by decide) rfl ?_
  refine E_bipush (x := 9) rfl (by decide) ?_
  refine E_ic (t := 13) (b := false) rfl rfl (by decide) ?_
  refine E_iconst (x := 1) rfl (by decide) ?_
  refine E_goto (t := 14) rfl rfl ?_
  exact E_iret rfl rfl
theorem f_piece_1 (a1 a2 a3 : Int32) (ha1h : a1.toInt ≤ -1) : p1_P 3 83 2 148 [.ref 0, .int a1, .int a2, .int a3] [.ref 65, .int a1, .int a2, .int a3] :=
  ⟨(-1), (w0.set 48 (.inl [0, 1, 0, 0, 0, 0, 0, 0])), ((w0.set 48 (.inl [0, 1, 0, 0, 0, 0, 0, 0])).set 66 (.inl [0, 1, 0, 0, 0, 0, 0, 0])), by
    refine Ef.in (md := mX5_piece) (L := [some (.ref 0), some (.int a1), some (.int a2), some (.int a3)]) rfl (Nat.le_of_ble_eq_true rfl) rfl ?_
    refine E_iload_n rfl rfl ?_
    have e2 : Ev ab_Z0 1 46 [.int a1] w0 (some (.int 0), w0) := by
      refine Ef.in (md := mX4_isKind) (L := [some (.int a1)]) rfl (Nat.le_of_ble_eq_true rfl) rfl ?_
      refine E_iload_n rfl rfl ?_
      refine E_if (t := 14) (b := true) rfl rfl ((cn_lt (rfl : (a1).toInt = (a1).toInt) (by decide : (0 : Int32).toInt = 0)).trans (decide_eq_true (by omega))) ?_
      refine E_iconst (x := 0) rfl (by decide) ?_
      exact E_iret rfl rfl
    refine E_callS (v := some (.int 0)) (As := [.int a1]) (r0 := []) (cs2 := w0) rfl rfl rfl (Nat.le_of_ble_eq_true rfl) rfl e2 (by decide) rfl ?_
    refine E_if (t := 13) (b := false) rfl rfl (by decide) ?_
    refine E_aload_n rfl rfl ?_
    refine E_iconst (x := 1) rfl (by decide) ?_
    refine E_callV (v := some (.int (-1))) (As := [.ref 0, .int 1]) (r0 := []) (cs2 := (w0.set 48 (.inl [0, 1, 0, 0, 0, 0, 0, 0]))) rfl rfl rfl (Nat.le_of_ble_eq_true rfl) rfl rfl c1_X5_refuse (by decide) (by simp only [List.length_set]) ?_
    exact E_iret rfl rfl, by
    refine Ef.in (md := mX6_piece) (L := [some (.ref 65), some (.int a1), some (.int a2), some (.int a3)]) rfl (Nat.le_of_ble_eq_true rfl) rfl ?_
    refine E_iload_n rfl rfl ?_
    refine E_if (t := 10) (b := true) rfl rfl ((cn_lt (rfl : (a1).toInt = (a1).toInt) (by decide : (0 : Int32).toInt = 0)).trans (decide_eq_true (by omega))) ?_
    refine E_aload_n rfl rfl ?_
    refine E_iconst (x := (-1)) rfl (by decide) ?_
    refine E_callV (v := some (.int (-1))) (As := [.ref 65, .int (-1)]) (r0 := []) (cs2 := ((w0.set 48 (.inl [0, 1, 0, 0, 0, 0, 0, 0])).set 66 (.inl [0, 1, 0, 0, 0, 0, 0, 0]))) rfl rfl rfl (Nat.le_of_ble_eq_true rfl) rfl rfl c3_X6_no (by decide) (by simp only [List.length_set]) ?_
    exact E_iret rfl rfl, (by simp only [List.length_set]; rfl), (by simp only [List.length_set]; rfl), ((ab_szs rfl).trans ((ab_szs rfl).trans rfl)), fun _ => rfl⟩
theorem f_piece_2 (a1 a2 a3 : Int32) (ha1l : (0 : Int) ≤ a1.toInt) (ha1h : a1.toInt ≤ 6) (ha2h : a2.toInt ≤ -1) : p1_P 3 83 2 148 [.ref 0, .int a1, .int a2, .int a3] [.ref 65, .int a1, .int a2, .int a3] :=
  ⟨(-6), (w0.set 48 (.inl [0, 0, 0, 0, 0, 0, 1, 0])), ((w0.set 48 (.inl [0, 0, 0, 0, 0, 0, 1, 0])).set 66 (.inl [0, 0, 0, 0, 0, 0, 1, 0])), by
    refine Ef.in (md := mX5_piece) (L := [some (.ref 0), some (.int a1), some (.int a2), some (.int a3)]) rfl (Nat.le_of_ble_eq_true rfl) rfl ?_
    refine E_iload_n rfl rfl ?_
    have e2 : Ev ab_Z0 1 46 [.int a1] w0 (some (.int 1), w0) := by
      refine Ef.in (md := mX4_isKind) (L := [some (.int a1)]) rfl (Nat.le_of_ble_eq_true rfl) rfl ?_
      refine E_iload_n rfl rfl ?_
      refine E_if (t := 14) (b := false) rfl rfl ((cn_lt (rfl : (a1).toInt = (a1).toInt) (by decide : (0 : Int32).toInt = 0)).trans (decide_eq_false (by omega))) ?_
      refine E_iload_n rfl rfl ?_
      refine E_bipush (x := 7) rfl (by decide) ?_
      refine E_ic (t := 14) (b := false) rfl rfl ((cn_ge (rfl : (a1).toInt = (a1).toInt) (by decide : (7 : Int32).toInt = 7)).trans (decide_eq_false (by omega))) ?_
      refine E_iconst (x := 1) rfl (by decide) ?_
      refine E_goto (t := 15) rfl rfl ?_
      exact E_iret rfl rfl
    refine E_callS (v := some (.int 1)) (As := [.int a1]) (r0 := []) (cs2 := w0) rfl rfl rfl (Nat.le_of_ble_eq_true rfl) rfl e2 (by decide) rfl ?_
    refine E_if (t := 13) (b := true) rfl rfl (by decide) ?_
    refine E_iload_n rfl rfl ?_
    refine E_iconst (x := 0) rfl (by decide) ?_
    refine E_bipush (x := 9) rfl (by decide) ?_
    have e17 : Ev ab_Z0 1 115 [.int a2, .int 0, .int 9] w0 (some (.int 0), w0) := by
      refine Ef.in (md := mX5_isFrom) (L := [some (.int a2), some (.int 0), some (.int 9)]) rfl (Nat.le_of_ble_eq_true rfl) rfl ?_
      refine E_iload_n rfl rfl ?_
      refine E_iload_n rfl rfl ?_
      refine E_ic (t := 14) (b := true) rfl rfl ((cn_lt (rfl : (a2).toInt = (a2).toInt) (by decide : (0 : Int32).toInt = 0)).trans (decide_eq_true (by omega))) ?_
      refine E_iconst (x := 0) rfl (by decide) ?_
      exact E_iret rfl rfl
    refine E_callS (v := some (.int 0)) (As := [.int a2, .int 0, .int 9]) (r0 := []) (cs2 := w0) rfl rfl rfl (Nat.le_of_ble_eq_true rfl) rfl e17 (by decide) rfl ?_
    refine E_if (t := 33) (b := true) rfl rfl (by decide) ?_
    refine E_aload_n rfl rfl ?_
    refine E_bipush (x := 6) rfl (by decide) ?_
    refine E_callV (v := some (.int (-6))) (As := [.ref 0, .int 6]) (r0 := []) (cs2 := (w0.set 48 (.inl [0, 0, 0, 0, 0, 0, 1, 0]))) rfl rfl rfl (Nat.le_of_ble_eq_true rfl) rfl rfl c7_X5_refuse (by decide) (by simp only [List.length_set]) ?_
    exact E_iret rfl rfl, by
    refine Ef.in (md := mX6_piece) (L := [some (.ref 65), some (.int a1), some (.int a2), some (.int a3)]) rfl (Nat.le_of_ble_eq_true rfl) rfl ?_
    refine E_iload_n rfl rfl ?_
    refine E_if (t := 10) (b := false) rfl rfl ((cn_lt (rfl : (a1).toInt = (a1).toInt) (by decide : (0 : Int32).toInt = 0)).trans (decide_eq_false (by omega))) ?_
    refine E_iload_n rfl rfl ?_
    refine E_bipush (x := 6) rfl (by decide) ?_
    refine E_ic (t := 16) (b := true) rfl rfl ((cn_le (rfl : (a1).toInt = (a1).toInt) (by decide : (6 : Int32).toInt = 6)).trans (decide_eq_true (by omega))) ?_
    refine E_aload_n rfl rfl ?_
    refine E_iload_n rfl rfl ?_
    refine E_iconst (x := 0) rfl (by decide) ?_
    refine E_bipush (x := 9) rfl (by decide) ?_
    have e10 : Ev ab_Z0 1 134 [.ref 65, .int a2, .int 0, .int 9] (w0.set 48 (.inl [0, 0, 0, 0, 0, 0, 1, 0])) (some (.int 0), (w0.set 48 (.inl [0, 0, 0, 0, 0, 0, 1, 0]))) := by
      refine Ef.in (md := mX6_isFrom) (L := [some (.ref 65), some (.int a2), some (.int 0), some (.int 9)]) rfl (Nat.le_of_ble_eq_true rfl) rfl ?_
      refine E_iload_n rfl rfl ?_
      refine E_iload_n rfl rfl ?_
      refine E_ic (t := 14) (b := true) rfl rfl ((cn_lt (rfl : (a2).toInt = (a2).toInt) (by decide : (0 : Int32).toInt = 0)).trans (decide_eq_true (by omega))) ?_
      refine E_iconst (x := 0) rfl (by decide) ?_
      exact E_iret rfl rfl
    refine E_callV (v := some (.int 0)) (As := [.ref 65, .int a2, .int 0, .int 9]) (r0 := []) (cs2 := (w0.set 48 (.inl [0, 0, 0, 0, 0, 0, 1, 0]))) rfl rfl rfl (Nat.le_of_ble_eq_true rfl) rfl rfl e10 (by decide) rfl ?_
    refine E_if (t := 38) (b := true) rfl rfl (by decide) ?_
    refine E_aload_n rfl rfl ?_
    refine E_bipush (x := (-6)) rfl (by decide) ?_
    refine E_callV (v := some (.int (-6))) (As := [.ref 65, .int (-6)]) (r0 := []) (cs2 := ((w0.set 48 (.inl [0, 0, 0, 0, 0, 0, 1, 0])).set 66 (.inl [0, 0, 0, 0, 0, 0, 1, 0]))) rfl rfl rfl (Nat.le_of_ble_eq_true rfl) rfl rfl c9_X6_no (by decide) (by simp only [List.length_set]) ?_
    exact E_iret rfl rfl, (by simp only [List.length_set]; rfl), (by simp only [List.length_set]; rfl), ((ab_szs rfl).trans ((ab_szs rfl).trans rfl)), fun _ => rfl⟩
theorem f_piece_3 (a1 a2 a3 : Int32) (ha1l : (0 : Int) ≤ a1.toInt) (ha1h : a1.toInt ≤ 6) (ha2l : (0 : Int) ≤ a2.toInt) (ha2h : a2.toInt ≤ 9) (ha3h : a3.toInt ≤ 0) : p1_P 3 83 2 148 [.ref 0, .int a1, .int a2, .int a3] [.ref 65, .int a1, .int a2, .int a3] :=
  ⟨(-6), (w0.set 48 (.inl [0, 0, 0, 0, 0, 0, 1, 0])), ((w0.set 48 (.inl [0, 0, 0, 0, 0, 0, 1, 0])).set 66 (.inl [0, 0, 0, 0, 0, 0, 1, 0])), by
    refine Ef.in (md := mX5_piece) (L := [some (.ref 0), some (.int a1), some (.int a2), some (.int a3)]) rfl (Nat.le_of_ble_eq_true rfl) rfl ?_
    refine E_iload_n rfl rfl ?_
    have e2 : Ev ab_Z0 1 46 [.int a1] w0 (some (.int 1), w0) := by
      refine Ef.in (md := mX4_isKind) (L := [some (.int a1)]) rfl (Nat.le_of_ble_eq_true rfl) rfl ?_
      refine E_iload_n rfl rfl ?_
      refine E_if (t := 14) (b := false) rfl rfl ((cn_lt (rfl : (a1).toInt = (a1).toInt) (by decide : (0 : Int32).toInt = 0)).trans (decide_eq_false (by omega))) ?_
      refine E_iload_n rfl rfl ?_
      refine E_bipush (x := 7) rfl (by decide) ?_
      refine E_ic (t := 14) (b := false) rfl rfl ((cn_ge (rfl : (a1).toInt = (a1).toInt) (by decide : (7 : Int32).toInt = 7)).trans (decide_eq_false (by omega))) ?_
      refine E_iconst (x := 1) rfl (by decide) ?_
      refine E_goto (t := 15) rfl rfl ?_
      exact E_iret rfl rfl
    refine E_callS (v := some (.int 1)) (As := [.int a1]) (r0 := []) (cs2 := w0) rfl rfl rfl (Nat.le_of_ble_eq_true rfl) rfl e2 (by decide) rfl ?_
    refine E_if (t := 13) (b := true) rfl rfl (by decide) ?_
    refine E_iload_n rfl rfl ?_
    refine E_iconst (x := 0) rfl (by decide) ?_
    refine E_bipush (x := 9) rfl (by decide) ?_
    have e17 : Ev ab_Z0 1 115 [.int a2, .int 0, .int 9] w0 (some (.int 1), w0) := by
      refine Ef.in (md := mX5_isFrom) (L := [some (.int a2), some (.int 0), some (.int 9)]) rfl (Nat.le_of_ble_eq_true rfl) rfl ?_
      refine E_iload_n rfl rfl ?_
      refine E_iload_n rfl rfl ?_
      refine E_ic (t := 14) (b := false) rfl rfl ((cn_lt (rfl : (a2).toInt = (a2).toInt) (by decide : (0 : Int32).toInt = 0)).trans (decide_eq_false (by omega))) ?_
      refine E_iload_n rfl rfl ?_
      refine E_iload_n rfl rfl ?_
      refine E_ic (t := 14) (b := false) rfl rfl ((cn_gt (rfl : (a2).toInt = (a2).toInt) (by decide : (9 : Int32).toInt = 9)).trans (decide_eq_false (by omega))) ?_
      refine E_iconst (x := 1) rfl (by decide) ?_
      refine E_goto (t := 15) rfl rfl ?_
      exact E_iret rfl rfl
    refine E_callS (v := some (.int 1)) (As := [.int a2, .int 0, .int 9]) (r0 := []) (cs2 := w0) rfl rfl rfl (Nat.le_of_ble_eq_true rfl) rfl e17 (by decide) rfl ?_
    refine E_if (t := 33) (b := false) rfl rfl (by decide) ?_
    refine E_iload_n rfl rfl ?_
    refine E_iconst (x := 1) rfl (by decide) ?_
    refine E_bipush (x := 50) rfl (by decide) ?_
    have e33 : Ev ab_Z0 1 115 [.int a3, .int 1, .int 50] w0 (some (.int 0), w0) := by
      refine Ef.in (md := mX5_isFrom) (L := [some (.int a3), some (.int 1), some (.int 50)]) rfl (Nat.le_of_ble_eq_true rfl) rfl ?_
      refine E_iload_n rfl rfl ?_
      refine E_iload_n rfl rfl ?_
      refine E_ic (t := 14) (b := true) rfl rfl ((cn_lt (rfl : (a3).toInt = (a3).toInt) (by decide : (1 : Int32).toInt = 1)).trans (decide_eq_true (by omega))) ?_
      refine E_iconst (x := 0) rfl (by decide) ?_
      exact E_iret rfl rfl
    refine E_callS (v := some (.int 0)) (As := [.int a3, .int 1, .int 50]) (r0 := []) (cs2 := w0) rfl rfl rfl (Nat.le_of_ble_eq_true rfl) rfl e33 (by decide) rfl ?_
    refine E_if (t := 40) (b := false) rfl rfl (by decide) ?_
    refine E_aload_n rfl rfl ?_
    refine E_bipush (x := 6) rfl (by decide) ?_
    refine E_callV (v := some (.int (-6))) (As := [.ref 0, .int 6]) (r0 := []) (cs2 := (w0.set 48 (.inl [0, 0, 0, 0, 0, 0, 1, 0]))) rfl rfl rfl (Nat.le_of_ble_eq_true rfl) rfl rfl c7_X5_refuse (by decide) (by simp only [List.length_set]) ?_
    exact E_iret rfl rfl, by
    refine Ef.in (md := mX6_piece) (L := [some (.ref 65), some (.int a1), some (.int a2), some (.int a3)]) rfl (Nat.le_of_ble_eq_true rfl) rfl ?_
    refine E_iload_n rfl rfl ?_
    refine E_if (t := 10) (b := false) rfl rfl ((cn_lt (rfl : (a1).toInt = (a1).toInt) (by decide : (0 : Int32).toInt = 0)).trans (decide_eq_false (by omega))) ?_
    refine E_iload_n rfl rfl ?_
    refine E_bipush (x := 6) rfl (by decide) ?_
    refine E_ic (t := 16) (b := true) rfl rfl ((cn_le (rfl : (a1).toInt = (a1).toInt) (by decide : (6 : Int32).toInt = 6)).trans (decide_eq_true (by omega))) ?_
    refine E_aload_n rfl rfl ?_
    refine E_iload_n rfl rfl ?_
    refine E_iconst (x := 0) rfl (by decide) ?_
    refine E_bipush (x := 9) rfl (by decide) ?_
    have e10 : Ev ab_Z0 1 134 [.ref 65, .int a2, .int 0, .int 9] (w0.set 48 (.inl [0, 0, 0, 0, 0, 0, 1, 0])) (some (.int 1), (w0.set 48 (.inl [0, 0, 0, 0, 0, 0, 1, 0]))) := by
      refine Ef.in (md := mX6_isFrom) (L := [some (.ref 65), some (.int a2), some (.int 0), some (.int 9)]) rfl (Nat.le_of_ble_eq_true rfl) rfl ?_
      refine E_iload_n rfl rfl ?_
      refine E_iload_n rfl rfl ?_
      refine E_ic (t := 14) (b := false) rfl rfl ((cn_lt (rfl : (a2).toInt = (a2).toInt) (by decide : (0 : Int32).toInt = 0)).trans (decide_eq_false (by omega))) ?_
      refine E_iload_n rfl rfl ?_
      refine E_iload_n rfl rfl ?_
      refine E_ic (t := 14) (b := false) rfl rfl ((cn_gt (rfl : (a2).toInt = (a2).toInt) (by decide : (9 : Int32).toInt = 9)).trans (decide_eq_false (by omega))) ?_
      refine E_iconst (x := 1) rfl (by decide) ?_
      refine E_goto (t := 15) rfl rfl ?_
      exact E_iret rfl rfl
    refine E_callV (v := some (.int 1)) (As := [.ref 65, .int a2, .int 0, .int 9]) (r0 := []) (cs2 := (w0.set 48 (.inl [0, 0, 0, 0, 0, 0, 1, 0]))) rfl rfl rfl (Nat.le_of_ble_eq_true rfl) rfl rfl e10 (by decide) rfl ?_
    refine E_if (t := 38) (b := false) rfl rfl (by decide) ?_
    refine E_aload_n rfl rfl ?_
    refine E_iload_n rfl rfl ?_
    refine E_iconst (x := 1) rfl (by decide) ?_
    refine E_bipush (x := 50) rfl (by decide) ?_
    have e27 : Ev ab_Z0 1 134 [.ref 65, .int a3, .int 1, .int 50] (w0.set 48 (.inl [0, 0, 0, 0, 0, 0, 1, 0])) (some (.int 0), (w0.set 48 (.inl [0, 0, 0, 0, 0, 0, 1, 0]))) := by
      refine Ef.in (md := mX6_isFrom) (L := [some (.ref 65), some (.int a3), some (.int 1), some (.int 50)]) rfl (Nat.le_of_ble_eq_true rfl) rfl ?_
      refine E_iload_n rfl rfl ?_
      refine E_iload_n rfl rfl ?_
      refine E_ic (t := 14) (b := true) rfl rfl ((cn_lt (rfl : (a3).toInt = (a3).toInt) (by decide : (1 : Int32).toInt = 1)).trans (decide_eq_true (by omega))) ?_
      refine E_iconst (x := 0) rfl (by decide) ?_
      exact E_iret rfl rfl
    refine E_callV (v := some (.int 0)) (As := [.ref 65, .int a3, .int 1, .int 50]) (r0 := []) (cs2 := (w0.set 48 (.inl [0, 0, 0, 0, 0, 0, 1, 0]))) rfl rfl rfl (Nat.le_of_ble_eq_true rfl) rfl rfl e27 (by decide) rfl ?_
    refine E_if (t := 45) (b := false) rfl rfl (by decide) ?_
    refine E_aload_n rfl rfl ?_
    refine E_bipush (x := (-6)) rfl (by decide) ?_
    refine E_callV (v := some (.int (-6))) (As := [.ref 65, .int (-6)]) (r0 := []) (cs2 := ((w0.set 48 (.inl [0, 0, 0, 0, 0, 0, 1, 0])).set 66 (.inl [0, 0, 0, 0, 0, 0, 1, 0]))) rfl rfl rfl (Nat.le_of_ble_eq_true rfl) rfl rfl c9_X6_no (by decide) (by simp only [List.length_set]) ?_
    exact E_iret rfl rfl, (by simp only [List.length_set]; rfl), (by simp only [List.length_set]; rfl), ((ab_szs rfl).trans ((ab_szs rfl).trans rfl)), fun _ => rfl⟩
theorem f_piece_4 (a1 a2 a3 : Int32) (ha1l : (0 : Int) ≤ a1.toInt) (ha1h : a1.toInt ≤ 6) (ha2l : (0 : Int) ≤ a2.toInt) (ha2h : a2.toInt ≤ 9) (ha3l : (1 : Int) ≤ a3.toInt) (ha3h : a3.toInt ≤ 50) : p1_P 3 83 2 148 [.ref 0, .int a1, .int a2, .int a3] [.ref 65, .int a1, .int a2, .int a3] :=
  ⟨0, (((((w0.set 2 (.inl [a1, 0, 0, 0, 0, 0, 0, 0, 0])).set 3 (.inl [a2, 0, 0, 0, 0, 0, 0, 0, 0])).set 4 (.inl [a3, 0, 0, 0, 0, 0, 0, 0, 0])).set 5 (.inl [99, 0, 0, 0, 0, 0, 0, 0, 0])).set 1 (.inr (.inr (.inr (4, [.ref 2, .ref 3, .ref 4, .ref 5, .ref 6, .ref 7, .ref 8, .ref 9, .ref 10, .int 1, .int 0, .int 0, .int 0, .int 0, .int 1]))))), ((((((((((w0.set 2 (.inl [a1, 0, 0, 0, 0, 0, 0, 0, 0])).set 3 (.inl [a2, 0, 0, 0, 0, 0, 0, 0, 0])).set 4 (.inl [a3, 0, 0, 0, 0, 0, 0, 0, 0])).set 5 (.inl [99, 0, 0, 0, 0, 0, 0, 0, 0])).set 1 (.inr (.inr (.inr (4, [.ref 2, .ref 3, .ref 4, .ref 5, .ref 6, .ref 7, .ref 8, .ref 9, .ref 10, .int 1, .int 0, .int 0, .int 0, .int 0, .int 1]))))).set 67 (.inl [a1, 0, 0, 0, 0, 0, 0, 0, 0])).set 68 (.inl [a2, 0, 0, 0, 0, 0, 0, 0, 0])).set 69 (.inl [a3, 0, 0, 0, 0, 0, 0, 0, 0])).set 70 (.inl [99, 0, 0, 0, 0, 0, 0, 0, 0])).set 65 (.inr (.inr (.inr (6, [.int 1, .int 0, .int 0, .int 0, .int 0, .int 1, .int (-1), .ref 66, .ref 67, .ref 68, .ref 69, .ref 70, .ref 71, .ref 72, .ref 73, .ref 74, .ref 75, .ref 76, .ref 77, .ref 78, .ref 79, .ref 80, .ref 81, .ref 82, .ref 83, .ref 84, .ref 85, .int 0, .int 0, .int 0, .int 0, .int 0, .ref 86, .ref 87, .ref 88, .ref 89, .int 0, .int 0, .ref 90, .ref 91, .ref 92, .ref 93, .int 0, .int 0, .int 0, .int 0, .ref 94, .int 0, .int 0]))))), by
    refine Ef.in (md := mX5_piece) (L := [some (.ref 0), some (.int a1), some (.int a2), some (.int a3)]) rfl (Nat.le_of_ble_eq_true rfl) rfl ?_
    refine E_iload_n rfl rfl ?_
    have e2 : Ev ab_Z0 1 46 [.int a1] w0 (some (.int 1), w0) := by
      refine Ef.in (md := mX4_isKind) (L := [some (.int a1)]) rfl (Nat.le_of_ble_eq_true rfl) rfl ?_
      refine E_iload_n rfl rfl ?_
      refine E_if (t := 14) (b := false) rfl rfl ((cn_lt (rfl : (a1).toInt = (a1).toInt) (by decide : (0 : Int32).toInt = 0)).trans (decide_eq_false (by omega))) ?_
      refine E_iload_n rfl rfl ?_
      refine E_bipush (x := 7) rfl (by decide) ?_
      refine E_ic (t := 14) (b := false) rfl rfl ((cn_ge (rfl : (a1).toInt = (a1).toInt) (by decide : (7 : Int32).toInt = 7)).trans (decide_eq_false (by omega))) ?_
      refine E_iconst (x := 1) rfl (by decide) ?_
      refine E_goto (t := 15) rfl rfl ?_
      exact E_iret rfl rfl
    refine E_callS (v := some (.int 1)) (As := [.int a1]) (r0 := []) (cs2 := w0) rfl rfl rfl (Nat.le_of_ble_eq_true rfl) rfl e2 (by decide) rfl ?_
    refine E_if (t := 13) (b := true) rfl rfl (by decide) ?_
    refine E_iload_n rfl rfl ?_
    refine E_iconst (x := 0) rfl (by decide) ?_
    refine E_bipush (x := 9) rfl (by decide) ?_
    have e17 : Ev ab_Z0 1 115 [.int a2, .int 0, .int 9] w0 (some (.int 1), w0) := by
      refine Ef.in (md := mX5_isFrom) (L := [some (.int a2), some (.int 0), some (.int 9)]) rfl (Nat.le_of_ble_eq_true rfl) rfl ?_
      refine E_iload_n rfl rfl ?_
      refine E_iload_n rfl rfl ?_
      refine E_ic (t := 14) (b := false) rfl rfl ((cn_lt (rfl : (a2).toInt = (a2).toInt) (by decide : (0 : Int32).toInt = 0)).trans (decide_eq_false (by omega))) ?_
      refine E_iload_n rfl rfl ?_
      refine E_iload_n rfl rfl ?_
      refine E_ic (t := 14) (b := false) rfl rfl ((cn_gt (rfl : (a2).toInt = (a2).toInt) (by decide : (9 : Int32).toInt = 9)).trans (decide_eq_false (by omega))) ?_
      refine E_iconst (x := 1) rfl (by decide) ?_
      refine E_goto (t := 15) rfl rfl ?_
      exact E_iret rfl rfl
    refine E_callS (v := some (.int 1)) (As := [.int a2, .int 0, .int 9]) (r0 := []) (cs2 := w0) rfl rfl rfl (Nat.le_of_ble_eq_true rfl) rfl e17 (by decide) rfl ?_
    refine E_if (t := 33) (b := false) rfl rfl (by decide) ?_
    refine E_iload_n rfl rfl ?_
    refine E_iconst (x := 1) rfl (by decide) ?_
    refine E_bipush (x := 50) rfl (by decide) ?_
    have e33 : Ev ab_Z0 1 115 [.int a3, .int 1, .int 50] w0 (some (.int 1), w0) := by
      refine Ef.in (md := mX5_isFrom) (L := [some (.int a3), some (.int 1), some (.int 50)]) rfl (Nat.le_of_ble_eq_true rfl) rfl ?_
      refine E_iload_n rfl rfl ?_
      refine E_iload_n rfl rfl ?_
      refine E_ic (t := 14) (b := false) rfl rfl ((cn_lt (rfl : (a3).toInt = (a3).toInt) (by decide : (1 : Int32).toInt = 1)).trans (decide_eq_false (by omega))) ?_
      refine E_iload_n rfl rfl ?_
      refine E_iload_n rfl rfl ?_
      refine E_ic (t := 14) (b := false) rfl rfl ((cn_gt (rfl : (a3).toInt = (a3).toInt) (by decide : (50 : Int32).toInt = 50)).trans (decide_eq_false (by omega))) ?_
      refine E_iconst (x := 1) rfl (by decide) ?_
      refine E_goto (t := 15) rfl rfl ?_
      exact E_iret rfl rfl
    refine E_callS (v := some (.int 1)) (As := [.int a3, .int 1, .int 50]) (r0 := []) (cs2 := w0) rfl rfl rfl (Nat.le_of_ble_eq_true rfl) rfl e33 (by decide) rfl ?_
    refine E_if (t := 40) (b := true) rfl rfl (by decide) ?_
    refine E_aload_n rfl rfl ?_
    refine E_getfield (v := .ref 1) rfl rfl rfl (by decide) rfl ?_
    refine E_callV (v := some (.int 1)) (As := [.ref 1]) (r0 := []) (cs2 := w0) rfl rfl rfl (Nat.le_of_ble_eq_true rfl) rfl rfl c184_X4_hasRoomForPiece (by decide) rfl ?_
    refine E_if (t := 57) (b := true) rfl rfl (by decide) ?_
    refine E_aload_n rfl rfl ?_
    refine E_getfield (v := .ref 1) rfl rfl rfl (by decide) rfl ?_
    refine E_iload_n rfl rfl ?_
    refine E_iload_n rfl rfl ?_
    refine E_iload_n rfl rfl ?_
    have e55 : Ev ab_Z0 2 56 [.ref 1, .int a1, .int a2, .int a3] w0 (some (.int 0), (((((w0.set 2 (.inl [a1, 0, 0, 0, 0, 0, 0, 0, 0])).set 3 (.inl [a2, 0, 0, 0, 0, 0, 0, 0, 0])).set 4 (.inl [a3, 0, 0, 0, 0, 0, 0, 0, 0])).set 5 (.inl [99, 0, 0, 0, 0, 0, 0, 0, 0])).set 1 (.inr (.inr (.inr (4, [.ref 2, .ref 3, .ref 4, .ref 5, .ref 6, .ref 7, .ref 8, .ref 9, .ref 10, .int 1, .int 0, .int 0, .int 0, .int 0, .int 1])))))) := by
      refine Ef.in (md := mX4_addPiece) (L := [some (.ref 1), some (.int a1), some (.int a2), some (.int a3), none]) rfl (Nat.le_of_ble_eq_true rfl) rfl ?_
      refine E_aload_n rfl rfl ?_
      refine E_callV (v := some (.int 1)) (As := [.ref 1]) (r0 := []) (cs2 := w0) rfl rfl rfl (Nat.le_of_ble_eq_true rfl) rfl rfl c184_X4_hasRoomForPiece (by decide) rfl ?_
      refine E_if (t := 9) (b := true) rfl rfl (by decide) ?_
      refine E_aload_n rfl rfl ?_
      refine E_getfield (v := .int 0) rfl rfl rfl (by decide) rfl ?_
      refine E_istore (L2 := [some (.ref 1), some (.int a1), some (.int a2), some (.int a3), some (.int 0)]) rfl rfl ?_
      refine E_aload_n rfl rfl ?_
      refine E_getfield (v := .ref 2) rfl rfl rfl (by decide) rfl ?_
      refine E_iload rfl rfl ?_
      refine E_iload_n rfl rfl ?_
      refine E_iastore (j := 0) (cs2 := (w0.set 2 (.inl [a1, 0, 0, 0, 0, 0, 0, 0, 0]))) rfl rfl (by decide) (by decide) (Nat.le_of_ble_eq_true rfl) rfl ?_
      refine E_aload_n rfl rfl ?_
      refine E_getfield (v := .ref 3) rfl rfl rfl (by decide) rfl ?_
      refine E_iload rfl rfl ?_
      refine E_iload_n rfl rfl ?_
      refine E_iastore (j := 0) (cs2 := ((w0.set 2 (.inl [a1, 0, 0, 0, 0, 0, 0, 0, 0])).set 3 (.inl [a2, 0, 0, 0, 0, 0, 0, 0, 0]))) rfl rfl (by decide) (by decide) (Nat.le_of_ble_eq_true rfl) rfl ?_
      refine E_aload_n rfl rfl ?_
      refine E_getfield (v := .ref 4) rfl rfl rfl (by decide) rfl ?_
      refine E_iload rfl rfl ?_
      refine E_iload_n rfl rfl ?_
      refine E_iastore (j := 0) (cs2 := (((w0.set 2 (.inl [a1, 0, 0, 0, 0, 0, 0, 0, 0])).set 3 (.inl [a2, 0, 0, 0, 0, 0, 0, 0, 0])).set 4 (.inl [a3, 0, 0, 0, 0, 0, 0, 0, 0]))) rfl rfl (by decide) (by decide) (Nat.le_of_ble_eq_true rfl) rfl ?_
      refine E_aload_n rfl rfl ?_
      refine E_getfield (v := .ref 5) rfl rfl rfl (by decide) rfl ?_
      refine E_iload rfl rfl ?_
      refine E_bipush (x := 99) rfl (by decide) ?_
      refine E_iastore (j := 0) (cs2 := ((((w0.set 2 (.inl [a1, 0, 0, 0, 0, 0, 0, 0, 0])).set 3 (.inl [a2, 0, 0, 0, 0, 0, 0, 0, 0])).set 4 (.inl [a3, 0, 0, 0, 0, 0, 0, 0, 0])).set 5 (.inl [99, 0, 0, 0, 0, 0, 0, 0, 0]))) rfl rfl (by decide) (by decide) (Nat.le_of_ble_eq_true rfl) rfl ?_
      refine E_aload_n rfl rfl ?_
      refine E_dup rfl rfl ?_
      refine E_getfield (v := .int 0) rfl rfl rfl (by decide) rfl ?_
      refine E_iconst (x := 1) rfl (by decide) ?_
      refine E_iadd (z := 1) rfl (by decide) ?_
      refine E_putfield (cs2 := (((((w0.set 2 (.inl [a1, 0, 0, 0, 0, 0, 0, 0, 0])).set 3 (.inl [a2, 0, 0, 0, 0, 0, 0, 0, 0])).set 4 (.inl [a3, 0, 0, 0, 0, 0, 0, 0, 0])).set 5 (.inl [99, 0, 0, 0, 0, 0, 0, 0, 0])).set 1 (.inr (.inr (.inr (4, [.ref 2, .ref 3, .ref 4, .ref 5, .ref 6, .ref 7, .ref 8, .ref 9, .ref 10, .int 1, .int 0, .int 0, .int 0, .int 0, .int 1])))))) rfl rfl rfl (by decide) (Nat.le_of_ble_eq_true rfl) rfl rfl rfl rfl ?_
      refine E_iload rfl rfl ?_
      exact E_iret rfl rfl
    refine E_callV (v := some (.int 0)) (As := [.ref 1, .int a1, .int a2, .int a3]) (r0 := []) (cs2 := (((((w0.set 2 (.inl [a1, 0, 0, 0, 0, 0, 0, 0, 0])).set 3 (.inl [a2, 0, 0, 0, 0, 0, 0, 0, 0])).set 4 (.inl [a3, 0, 0, 0, 0, 0, 0, 0, 0])).set 5 (.inl [99, 0, 0, 0, 0, 0, 0, 0, 0])).set 1 (.inr (.inr (.inr (4, [.ref 2, .ref 3, .ref 4, .ref 5, .ref 6, .ref 7, .ref 8, .ref 9, .ref 10, .int 1, .int 0, .int 0, .int 0, .int 0, .int 1])))))) rfl rfl rfl (Nat.le_of_ble_eq_true rfl) rfl rfl e55 (by decide) (by simp only [List.length_set]) ?_
    exact E_iret rfl rfl, by
    refine Ef.in (md := mX6_piece) (L := [some (.ref 65), some (.int a1), some (.int a2), some (.int a3)]) rfl (Nat.le_of_ble_eq_true rfl) rfl ?_
    refine E_iload_n rfl rfl ?_
    refine E_if (t := 10) (b := false) rfl rfl ((cn_lt (rfl : (a1).toInt = (a1).toInt) (by decide : (0 : Int32).toInt = 0)).trans (decide_eq_false (by omega))) ?_
    refine E_iload_n rfl rfl ?_
    refine E_bipush (x := 6) rfl (by decide) ?_
    refine E_ic (t := 16) (b := true) rfl rfl ((cn_le (rfl : (a1).toInt = (a1).toInt) (by decide : (6 : Int32).toInt = 6)).trans (decide_eq_true (by omega))) ?_
    refine E_aload_n rfl rfl ?_
    refine E_iload_n rfl rfl ?_
    refine E_iconst (x := 0) rfl (by decide) ?_
    refine E_bipush (x := 9) rfl (by decide) ?_
    have e10 : Ev ab_Z0 1 134 [.ref 65, .int a2, .int 0, .int 9] (((((w0.set 2 (.inl [a1, 0, 0, 0, 0, 0, 0, 0, 0])).set 3 (.inl [a2, 0, 0, 0, 0, 0, 0, 0, 0])).set 4 (.inl [a3, 0, 0, 0, 0, 0, 0, 0, 0])).set 5 (.inl [99, 0, 0, 0, 0, 0, 0, 0, 0])).set 1 (.inr (.inr (.inr (4, [.ref 2, .ref 3, .ref 4, .ref 5, .ref 6, .ref 7, .ref 8, .ref 9, .ref 10, .int 1, .int 0, .int 0, .int 0, .int 0, .int 1]))))) (some (.int 1), (((((w0.set 2 (.inl [a1, 0, 0, 0, 0, 0, 0, 0, 0])).set 3 (.inl [a2, 0, 0, 0, 0, 0, 0, 0, 0])).set 4 (.inl [a3, 0, 0, 0, 0, 0, 0, 0, 0])).set 5 (.inl [99, 0, 0, 0, 0, 0, 0, 0, 0])).set 1 (.inr (.inr (.inr (4, [.ref 2, .ref 3, .ref 4, .ref 5, .ref 6, .ref 7, .ref 8, .ref 9, .ref 10, .int 1, .int 0, .int 0, .int 0, .int 0, .int 1])))))) := by
      refine Ef.in (md := mX6_isFrom) (L := [some (.ref 65), some (.int a2), some (.int 0), some (.int 9)]) rfl (Nat.le_of_ble_eq_true rfl) rfl ?_
      refine E_iload_n rfl rfl ?_
      refine E_iload_n rfl rfl ?_
      refine E_ic (t := 14) (b := false) rfl rfl ((cn_lt (rfl : (a2).toInt = (a2).toInt) (by decide : (0 : Int32).toInt = 0)).trans (decide_eq_false (by omega))) ?_
      refine E_iload_n rfl rfl ?_
      refine E_iload_n rfl rfl ?_
      refine E_ic (t := 14) (b := false) rfl rfl ((cn_gt (rfl : (a2).toInt = (a2).toInt) (by decide : (9 : Int32).toInt = 9)).trans (decide_eq_false (by omega))) ?_
      refine E_iconst (x := 1) rfl (by decide) ?_
      refine E_goto (t := 15) rfl rfl ?_
      exact E_iret rfl rfl
    refine E_callV (v := some (.int 1)) (As := [.ref 65, .int a2, .int 0, .int 9]) (r0 := []) (cs2 := (((((w0.set 2 (.inl [a1, 0, 0, 0, 0, 0, 0, 0, 0])).set 3 (.inl [a2, 0, 0, 0, 0, 0, 0, 0, 0])).set 4 (.inl [a3, 0, 0, 0, 0, 0, 0, 0, 0])).set 5 (.inl [99, 0, 0, 0, 0, 0, 0, 0, 0])).set 1 (.inr (.inr (.inr (4, [.ref 2, .ref 3, .ref 4, .ref 5, .ref 6, .ref 7, .ref 8, .ref 9, .ref 10, .int 1, .int 0, .int 0, .int 0, .int 0, .int 1])))))) rfl rfl rfl (Nat.le_of_ble_eq_true rfl) rfl rfl e10 (by decide) rfl ?_
    refine E_if (t := 38) (b := false) rfl rfl (by decide) ?_
    refine E_aload_n rfl rfl ?_
    refine E_iload_n rfl rfl ?_
    refine E_iconst (x := 1) rfl (by decide) ?_
    refine E_bipush (x := 50) rfl (by decide) ?_
    have e27 : Ev ab_Z0 1 134 [.ref 65, .int a3, .int 1, .int 50] (((((w0.set 2 (.inl [a1, 0, 0, 0, 0, 0, 0, 0, 0])).set 3 (.inl [a2, 0, 0, 0, 0, 0, 0, 0, 0])).set 4 (.inl [a3, 0, 0, 0, 0, 0, 0, 0, 0])).set 5 (.inl [99, 0, 0, 0, 0, 0, 0, 0, 0])).set 1 (.inr (.inr (.inr (4, [.ref 2, .ref 3, .ref 4, .ref 5, .ref 6, .ref 7, .ref 8, .ref 9, .ref 10, .int 1, .int 0, .int 0, .int 0, .int 0, .int 1]))))) (some (.int 1), (((((w0.set 2 (.inl [a1, 0, 0, 0, 0, 0, 0, 0, 0])).set 3 (.inl [a2, 0, 0, 0, 0, 0, 0, 0, 0])).set 4 (.inl [a3, 0, 0, 0, 0, 0, 0, 0, 0])).set 5 (.inl [99, 0, 0, 0, 0, 0, 0, 0, 0])).set 1 (.inr (.inr (.inr (4, [.ref 2, .ref 3, .ref 4, .ref 5, .ref 6, .ref 7, .ref 8, .ref 9, .ref 10, .int 1, .int 0, .int 0, .int 0, .int 0, .int 1])))))) := by
      refine Ef.in (md := mX6_isFrom) (L := [some (.ref 65), some (.int a3), some (.int 1), some (.int 50)]) rfl (Nat.le_of_ble_eq_true rfl) rfl ?_
      refine E_iload_n rfl rfl ?_
      refine E_iload_n rfl rfl ?_
      refine E_ic (t := 14) (b := false) rfl rfl ((cn_lt (rfl : (a3).toInt = (a3).toInt) (by decide : (1 : Int32).toInt = 1)).trans (decide_eq_false (by omega))) ?_
      refine E_iload_n rfl rfl ?_
      refine E_iload_n rfl rfl ?_
      refine E_ic (t := 14) (b := false) rfl rfl ((cn_gt (rfl : (a3).toInt = (a3).toInt) (by decide : (50 : Int32).toInt = 50)).trans (decide_eq_false (by omega))) ?_
      refine E_iconst (x := 1) rfl (by decide) ?_
      refine E_goto (t := 15) rfl rfl ?_
      exact E_iret rfl rfl
    refine E_callV (v := some (.int 1)) (As := [.ref 65, .int a3, .int 1, .int 50]) (r0 := []) (cs2 := (((((w0.set 2 (.inl [a1, 0, 0, 0, 0, 0, 0, 0, 0])).set 3 (.inl [a2, 0, 0, 0, 0, 0, 0, 0, 0])).set 4 (.inl [a3, 0, 0, 0, 0, 0, 0, 0, 0])).set 5 (.inl [99, 0, 0, 0, 0, 0, 0, 0, 0])).set 1 (.inr (.inr (.inr (4, [.ref 2, .ref 3, .ref 4, .ref 5, .ref 6, .ref 7, .ref 8, .ref 9, .ref 10, .int 1, .int 0, .int 0, .int 0, .int 0, .int 1])))))) rfl rfl rfl (Nat.le_of_ble_eq_true rfl) rfl rfl e27 (by decide) rfl ?_
    refine E_if (t := 45) (b := true) rfl rfl (by decide) ?_
    refine E_aload_n rfl rfl ?_
    refine E_getfield (v := .int 0) rfl rfl rfl (by decide) rfl ?_
    refine E_bipush (x := 9) rfl (by decide) ?_
    refine E_ic (t := 63) (b := true) rfl rfl (by decide) ?_
    refine E_aload_n rfl rfl ?_
    refine E_iload_n rfl rfl ?_
    refine E_iload_n rfl rfl ?_
    refine E_iload_n rfl rfl ?_
    have e48 : Ev ab_Z0 1 146 [.ref 65, .int a1, .int a2, .int a3] (((((w0.set 2 (.inl [a1, 0, 0, 0, 0, 0, 0, 0, 0])).set 3 (.inl [a2, 0, 0, 0, 0, 0, 0, 0, 0])).set 4 (.inl [a3, 0, 0, 0, 0, 0, 0, 0, 0])).set 5 (.inl [99, 0, 0, 0, 0, 0, 0, 0, 0])).set 1 (.inr (.inr (.inr (4, [.ref 2, .ref 3, .ref 4, .ref 5, .ref 6, .ref 7, .ref 8, .ref 9, .ref 10, .int 1, .int 0, .int 0, .int 0, .int 0, .int 1]))))) (some (.int 0), ((((((((((w0.set 2 (.inl [a1, 0, 0, 0, 0, 0, 0, 0, 0])).set 3 (.inl [a2, 0, 0, 0, 0, 0, 0, 0, 0])).set 4 (.inl [a3, 0, 0, 0, 0, 0, 0, 0, 0])).set 5 (.inl [99, 0, 0, 0, 0, 0, 0, 0, 0])).set 1 (.inr (.inr (.inr (4, [.ref 2, .ref 3, .ref 4, .ref 5, .ref 6, .ref 7, .ref 8, .ref 9, .ref 10, .int 1, .int 0, .int 0, .int 0, .int 0, .int 1]))))).set 67 (.inl [a1, 0, 0, 0, 0, 0, 0, 0, 0])).set 68 (.inl [a2, 0, 0, 0, 0, 0, 0, 0, 0])).set 69 (.inl [a3, 0, 0, 0, 0, 0, 0, 0, 0])).set 70 (.inl [99, 0, 0, 0, 0, 0, 0, 0, 0])).set 65 (.inr (.inr (.inr (6, [.int 1, .int 0, .int 0, .int 0, .int 0, .int 1, .int (-1), .ref 66, .ref 67, .ref 68, .ref 69, .ref 70, .ref 71, .ref 72, .ref 73, .ref 74, .ref 75, .ref 76, .ref 77, .ref 78, .ref 79, .ref 80, .ref 81, .ref 82, .ref 83, .ref 84, .ref 85, .int 0, .int 0, .int 0, .int 0, .int 0, .ref 86, .ref 87, .ref 88, .ref 89, .int 0, .int 0, .ref 90, .ref 91, .ref 92, .ref 93, .int 0, .int 0, .int 0, .int 0, .ref 94, .int 0, .int 0])))))) := by
      refine Ef.in (md := mX6_addsPiece) (L := [some (.ref 65), some (.int a1), some (.int a2), some (.int a3)]) rfl (Nat.le_of_ble_eq_true rfl) rfl ?_
      refine E_aload_n rfl rfl ?_
      refine E_getfield (v := .ref 67) rfl rfl rfl (by decide) rfl ?_
      refine E_aload_n rfl rfl ?_
      refine E_getfield (v := .int 0) rfl rfl rfl (by decide) rfl ?_
      refine E_iload_n rfl rfl ?_
      refine E_iastore (j := 0) (cs2 := ((((((w0.set 2 (.inl [a1, 0, 0, 0, 0, 0, 0, 0, 0])).set 3 (.inl [a2, 0, 0, 0, 0, 0, 0, 0, 0])).set 4 (.inl [a3, 0, 0, 0, 0, 0, 0, 0, 0])).set 5 (.inl [99, 0, 0, 0, 0, 0, 0, 0, 0])).set 1 (.inr (.inr (.inr (4, [.ref 2, .ref 3, .ref 4, .ref 5, .ref 6, .ref 7, .ref 8, .ref 9, .ref 10, .int 1, .int 0, .int 0, .int 0, .int 0, .int 1]))))).set 67 (.inl [a1, 0, 0, 0, 0, 0, 0, 0, 0]))) rfl rfl (by decide) (by decide) (Nat.le_of_ble_eq_true rfl) rfl ?_
      refine E_aload_n rfl rfl ?_
      refine E_getfield (v := .ref 68) rfl rfl rfl (by decide) rfl ?_
      refine E_aload_n rfl rfl ?_
      refine E_getfield (v := .int 0) rfl rfl rfl (by decide) rfl ?_
      refine E_iload_n rfl rfl ?_
      refine E_iastore (j := 0) (cs2 := (((((((w0.set 2 (.inl [a1, 0, 0, 0, 0, 0, 0, 0, 0])).set 3 (.inl [a2, 0, 0, 0, 0, 0, 0, 0, 0])).set 4 (.inl [a3, 0, 0, 0, 0, 0, 0, 0, 0])).set 5 (.inl [99, 0, 0, 0, 0, 0, 0, 0, 0])).set 1 (.inr (.inr (.inr (4, [.ref 2, .ref 3, .ref 4, .ref 5, .ref 6, .ref 7, .ref 8, .ref 9, .ref 10, .int 1, .int 0, .int 0, .int 0, .int 0, .int 1]))))).set 67 (.inl [a1, 0, 0, 0, 0, 0, 0, 0, 0])).set 68 (.inl [a2, 0, 0, 0, 0, 0, 0, 0, 0]))) rfl rfl (by decide) (by decide) (Nat.le_of_ble_eq_true rfl) rfl ?_
      refine E_aload_n rfl rfl ?_
      refine E_getfield (v := .ref 69) rfl rfl rfl (by decide) rfl ?_
      refine E_aload_n rfl rfl ?_
      refine E_getfield (v := .int 0) rfl rfl rfl (by decide) rfl ?_
      refine E_iload_n rfl rfl ?_
      refine E_iastore (j := 0) (cs2 := ((((((((w0.set 2 (.inl [a1, 0, 0, 0, 0, 0, 0, 0, 0])).set 3 (.inl [a2, 0, 0, 0, 0, 0, 0, 0, 0])).set 4 (.inl [a3, 0, 0, 0, 0, 0, 0, 0, 0])).set 5 (.inl [99, 0, 0, 0, 0, 0, 0, 0, 0])).set 1 (.inr (.inr (.inr (4, [.ref 2, .ref 3, .ref 4, .ref 5, .ref 6, .ref 7, .ref 8, .ref 9, .ref 10, .int 1, .int 0, .int 0, .int 0, .int 0, .int 1]))))).set 67 (.inl [a1, 0, 0, 0, 0, 0, 0, 0, 0])).set 68 (.inl [a2, 0, 0, 0, 0, 0, 0, 0, 0])).set 69 (.inl [a3, 0, 0, 0, 0, 0, 0, 0, 0]))) rfl rfl (by decide) (by decide) (Nat.le_of_ble_eq_true rfl) rfl ?_
      refine E_aload_n rfl rfl ?_
      refine E_getfield (v := .ref 70) rfl rfl rfl (by decide) rfl ?_
      refine E_aload_n rfl rfl ?_
      refine E_getfield (v := .int 0) rfl rfl rfl (by decide) rfl ?_
      refine E_bipush (x := 99) rfl (by decide) ?_
      refine E_iastore (j := 0) (cs2 := (((((((((w0.set 2 (.inl [a1, 0, 0, 0, 0, 0, 0, 0, 0])).set 3 (.inl [a2, 0, 0, 0, 0, 0, 0, 0, 0])).set 4 (.inl [a3, 0, 0, 0, 0, 0, 0, 0, 0])).set 5 (.inl [99, 0, 0, 0, 0, 0, 0, 0, 0])).set 1 (.inr (.inr (.inr (4, [.ref 2, .ref 3, .ref 4, .ref 5, .ref 6, .ref 7, .ref 8, .ref 9, .ref 10, .int 1, .int 0, .int 0, .int 0, .int 0, .int 1]))))).set 67 (.inl [a1, 0, 0, 0, 0, 0, 0, 0, 0])).set 68 (.inl [a2, 0, 0, 0, 0, 0, 0, 0, 0])).set 69 (.inl [a3, 0, 0, 0, 0, 0, 0, 0, 0])).set 70 (.inl [99, 0, 0, 0, 0, 0, 0, 0, 0]))) rfl rfl (by decide) (by decide) (Nat.le_of_ble_eq_true rfl) rfl ?_
      refine E_aload_n rfl rfl ?_
      refine E_dup rfl rfl ?_
      refine E_getfield (v := .int 0) rfl rfl rfl (by decide) rfl ?_
      refine E_dup_x1 rfl ⟨rfl, rfl⟩ ?_
      refine E_iconst (x := 1) rfl (by decide) ?_
      refine E_iadd (z := 1) rfl (by decide) ?_
      refine E_putfield (cs2 := ((((((((((w0.set 2 (.inl [a1, 0, 0, 0, 0, 0, 0, 0, 0])).set 3 (.inl [a2, 0, 0, 0, 0, 0, 0, 0, 0])).set 4 (.inl [a3, 0, 0, 0, 0, 0, 0, 0, 0])).set 5 (.inl [99, 0, 0, 0, 0, 0, 0, 0, 0])).set 1 (.inr (.inr (.inr (4, [.ref 2, .ref 3, .ref 4, .ref 5, .ref 6, .ref 7, .ref 8, .ref 9, .ref 10, .int 1, .int 0, .int 0, .int 0, .int 0, .int 1]))))).set 67 (.inl [a1, 0, 0, 0, 0, 0, 0, 0, 0])).set 68 (.inl [a2, 0, 0, 0, 0, 0, 0, 0, 0])).set 69 (.inl [a3, 0, 0, 0, 0, 0, 0, 0, 0])).set 70 (.inl [99, 0, 0, 0, 0, 0, 0, 0, 0])).set 65 (.inr (.inr (.inr (6, [.int 1, .int 0, .int 0, .int 0, .int 0, .int 1, .int (-1), .ref 66, .ref 67, .ref 68, .ref 69, .ref 70, .ref 71, .ref 72, .ref 73, .ref 74, .ref 75, .ref 76, .ref 77, .ref 78, .ref 79, .ref 80, .ref 81, .ref 82, .ref 83, .ref 84, .ref 85, .int 0, .int 0, .int 0, .int 0, .int 0, .ref 86, .ref 87, .ref 88, .ref 89, .int 0, .int 0, .ref 90, .ref 91, .ref 92, .ref 93, .int 0, .int 0, .int 0, .int 0, .ref 94, .int 0, .int 0])))))) rfl rfl rfl (by decide) (Nat.le_of_ble_eq_true rfl) rfl rfl rfl rfl ?_
      exact E_iret rfl rfl
    refine E_callV (v := some (.int 0)) (As := [.ref 65, .int a1, .int a2, .int a3]) (r0 := []) (cs2 := ((((((((((w0.set 2 (.inl [a1, 0, 0, 0, 0, 0, 0, 0, 0])).set 3 (.inl [a2, 0, 0, 0, 0, 0, 0, 0, 0])).set 4 (.inl [a3, 0, 0, 0, 0, 0, 0, 0, 0])).set 5 (.inl [99, 0, 0, 0, 0, 0, 0, 0, 0])).set 1 (.inr (.inr (.inr (4, [.ref 2, .ref 3, .ref 4, .ref 5, .ref 6, .ref 7, .ref 8, .ref 9, .ref 10, .int 1, .int 0, .int 0, .int 0, .int 0, .int 1]))))).set 67 (.inl [a1, 0, 0, 0, 0, 0, 0, 0, 0])).set 68 (.inl [a2, 0, 0, 0, 0, 0, 0, 0, 0])).set 69 (.inl [a3, 0, 0, 0, 0, 0, 0, 0, 0])).set 70 (.inl [99, 0, 0, 0, 0, 0, 0, 0, 0])).set 65 (.inr (.inr (.inr (6, [.int 1, .int 0, .int 0, .int 0, .int 0, .int 1, .int (-1), .ref 66, .ref 67, .ref 68, .ref 69, .ref 70, .ref 71, .ref 72, .ref 73, .ref 74, .ref 75, .ref 76, .ref 77, .ref 78, .ref 79, .ref 80, .ref 81, .ref 82, .ref 83, .ref 84, .ref 85, .int 0, .int 0, .int 0, .int 0, .int 0, .ref 86, .ref 87, .ref 88, .ref 89, .int 0, .int 0, .ref 90, .ref 91, .ref 92, .ref 93, .int 0, .int 0, .int 0, .int 0, .ref 94, .int 0, .int 0])))))) rfl rfl rfl (Nat.le_of_ble_eq_true rfl) rfl rfl e48 (by decide) (by simp only [List.length_set]) ?_
    exact E_iret rfl rfl, (by simp only [List.length_set]; rfl), (by simp only [List.length_set]; rfl), ((ab_szs rfl).trans ((ab_szs rfl).trans ((ab_szs rfl).trans ((ab_szs rfl).trans ((ab_szs rfl).trans ((ab_szs rfl).trans ((ab_szs rfl).trans ((ab_szs rfl).trans ((ab_szs rfl).trans ((ab_szs rfl).trans rfl)))))))))), fun _ => rfl⟩
theorem f_piece_5 (a1 a2 a3 : Int32) (ha1l : (0 : Int) ≤ a1.toInt) (ha1h : a1.toInt ≤ 6) (ha2l : (0 : Int) ≤ a2.toInt) (ha2h : a2.toInt ≤ 9) (ha3l : (51 : Int) ≤ a3.toInt) : p1_P 3 83 2 148 [.ref 0, .int a1, .int a2, .int a3] [.ref 65, .int a1, .int a2, .int a3] :=
  ⟨(-6), (w0.set 48 (.inl [0, 0, 0, 0, 0, 0, 1, 0])), ((w0.set 48 (.inl [0, 0, 0, 0, 0, 0, 1, 0])).set 66 (.inl [0, 0, 0, 0, 0, 0, 1, 0])), by
    refine Ef.in (md := mX5_piece) (L := [some (.ref 0), some (.int a1), some (.int a2), some (.int a3)]) rfl (Nat.le_of_ble_eq_true rfl) rfl ?_
    refine E_iload_n rfl rfl ?_
    have e2 : Ev ab_Z0 1 46 [.int a1] w0 (some (.int 1), w0) := by
      refine Ef.in (md := mX4_isKind) (L := [some (.int a1)]) rfl (Nat.le_of_ble_eq_true rfl) rfl ?_
      refine E_iload_n rfl rfl ?_
      refine E_if (t := 14) (b := false) rfl rfl ((cn_lt (rfl : (a1).toInt = (a1).toInt) (by decide : (0 : Int32).toInt = 0)).trans (decide_eq_false (by omega))) ?_
      refine E_iload_n rfl rfl ?_
      refine E_bipush (x := 7) rfl (by decide) ?_
      refine E_ic (t := 14) (b := false) rfl rfl ((cn_ge (rfl : (a1).toInt = (a1).toInt) (by decide : (7 : Int32).toInt = 7)).trans (decide_eq_false (by omega))) ?_
      refine E_iconst (x := 1) rfl (by decide) ?_
      refine E_goto (t := 15) rfl rfl ?_
      exact E_iret rfl rfl
    refine E_callS (v := some (.int 1)) (As := [.int a1]) (r0 := []) (cs2 := w0) rfl rfl rfl (Nat.le_of_ble_eq_true rfl) rfl e2 (by decide) rfl ?_
    refine E_if (t := 13) (b := true) rfl rfl (by decide) ?_
    refine E_iload_n rfl rfl ?_
    refine E_iconst (x := 0) rfl (by decide) ?_
    refine E_bipush (x := 9) rfl (by decide) ?_
    have e17 : Ev ab_Z0 1 115 [.int a2, .int 0, .int 9] w0 (some (.int 1), w0) := by
      refine Ef.in (md := mX5_isFrom) (L := [some (.int a2), some (.int 0), some (.int 9)]) rfl (Nat.le_of_ble_eq_true rfl) rfl ?_
      refine E_iload_n rfl rfl ?_
      refine E_iload_n rfl rfl ?_
      refine E_ic (t := 14) (b := false) rfl rfl ((cn_lt (rfl : (a2).toInt = (a2).toInt) (by decide : (0 : Int32).toInt = 0)).trans (decide_eq_false (by omega))) ?_
      refine E_iload_n rfl rfl ?_
      refine E_iload_n rfl rfl ?_
      refine E_ic (t := 14) (b := false) rfl rfl ((cn_gt (rfl : (a2).toInt = (a2).toInt) (by decide : (9 : Int32).toInt = 9)).trans (decide_eq_false (by omega))) ?_
      refine E_iconst (x := 1) rfl (by decide) ?_
      refine E_goto (t := 15) rfl rfl ?_
      exact E_iret rfl rfl
    refine E_callS (v := some (.int 1)) (As := [.int a2, .int 0, .int 9]) (r0 := []) (cs2 := w0) rfl rfl rfl (Nat.le_of_ble_eq_true rfl) rfl e17 (by decide) rfl ?_
    refine E_if (t := 33) (b := false) rfl rfl (by decide) ?_
    refine E_iload_n rfl rfl ?_
    refine E_iconst (x := 1) rfl (by decide) ?_
    refine E_bipush (x := 50) rfl (by decide) ?_
    have e33 : Ev ab_Z0 1 115 [.int a3, .int 1, .int 50] w0 (some (.int 0), w0) := by
      refine Ef.in (md := mX5_isFrom) (L := [some (.int a3), some (.int 1), some (.int 50)]) rfl (Nat.le_of_ble_eq_true rfl) rfl ?_
      refine E_iload_n rfl rfl ?_
      refine E_iload_n rfl rfl ?_
      refine E_ic (t := 14) (b := false) rfl rfl ((cn_lt (rfl : (a3).toInt = (a3).toInt) (by decide : (1 : Int32).toInt = 1)).trans (decide_eq_false (by omega))) ?_
      refine E_iload_n rfl rfl ?_
      refine E_iload_n rfl rfl ?_
      refine E_ic (t := 14) (b := true) rfl rfl ((cn_gt (rfl : (a3).toInt = (a3).toInt) (by decide : (50 : Int32).toInt = 50)).trans (decide_eq_true (by omega))) ?_
      refine E_iconst (x := 0) rfl (by decide) ?_
      exact E_iret rfl rfl
    refine E_callS (v := some (.int 0)) (As := [.int a3, .int 1, .int 50]) (r0 := []) (cs2 := w0) rfl rfl rfl (Nat.le_of_ble_eq_true rfl) rfl e33 (by decide) rfl ?_
    refine E_if (t := 40) (b := false) rfl rfl (by decide) ?_
    refine E_aload_n rfl rfl ?_
    refine E_bipush (x := 6) rfl (by decide) ?_
    refine E_callV (v := some (.int (-6))) (As := [.ref 0, .int 6]) (r0 := []) (cs2 := (w0.set 48 (.inl [0, 0, 0, 0, 0, 0, 1, 0]))) rfl rfl rfl (Nat.le_of_ble_eq_true rfl) rfl rfl c7_X5_refuse (by decide) (by simp only [List.length_set]) ?_
    exact E_iret rfl rfl, by
    refine Ef.in (md := mX6_piece) (L := [some (.ref 65), some (.int a1), some (.int a2), some (.int a3)]) rfl (Nat.le_of_ble_eq_true rfl) rfl ?_
    refine E_iload_n rfl rfl ?_
    refine E_if (t := 10) (b := false) rfl rfl ((cn_lt (rfl : (a1).toInt = (a1).toInt) (by decide : (0 : Int32).toInt = 0)).trans (decide_eq_false (by omega))) ?_
    refine E_iload_n rfl rfl ?_
    refine E_bipush (x := 6) rfl (by decide) ?_
    refine E_ic (t := 16) (b := true) rfl rfl ((cn_le (rfl : (a1).toInt = (a1).toInt) (by decide : (6 : Int32).toInt = 6)).trans (decide_eq_true (by omega))) ?_
    refine E_aload_n rfl rfl ?_
    refine E_iload_n rfl rfl ?_
    refine E_iconst (x := 0) rfl (by decide) ?_
    refine E_bipush (x := 9) rfl (by decide) ?_
    have e10 : Ev ab_Z0 1 134 [.ref 65, .int a2, .int 0, .int 9] (w0.set 48 (.inl [0, 0, 0, 0, 0, 0, 1, 0])) (some (.int 1), (w0.set 48 (.inl [0, 0, 0, 0, 0, 0, 1, 0]))) := by
      refine Ef.in (md := mX6_isFrom) (L := [some (.ref 65), some (.int a2), some (.int 0), some (.int 9)]) rfl (Nat.le_of_ble_eq_true rfl) rfl ?_
      refine E_iload_n rfl rfl ?_
      refine E_iload_n rfl rfl ?_
      refine E_ic (t := 14) (b := false) rfl rfl ((cn_lt (rfl : (a2).toInt = (a2).toInt) (by decide : (0 : Int32).toInt = 0)).trans (decide_eq_false (by omega))) ?_
      refine E_iload_n rfl rfl ?_
      refine E_iload_n rfl rfl ?_
      refine E_ic (t := 14) (b := false) rfl rfl ((cn_gt (rfl : (a2).toInt = (a2).toInt) (by decide : (9 : Int32).toInt = 9)).trans (decide_eq_false (by omega))) ?_
      refine E_iconst (x := 1) rfl (by decide) ?_
      refine E_goto (t := 15) rfl rfl ?_
      exact E_iret rfl rfl
    refine E_callV (v := some (.int 1)) (As := [.ref 65, .int a2, .int 0, .int 9]) (r0 := []) (cs2 := (w0.set 48 (.inl [0, 0, 0, 0, 0, 0, 1, 0]))) rfl rfl rfl (Nat.le_of_ble_eq_true rfl) rfl rfl e10 (by decide) rfl ?_
    refine E_if (t := 38) (b := false) rfl rfl (by decide) ?_
    refine E_aload_n rfl rfl ?_
    refine E_iload_n rfl rfl ?_
    refine E_iconst (x := 1) rfl (by decide) ?_
    refine E_bipush (x := 50) rfl (by decide) ?_
    have e27 : Ev ab_Z0 1 134 [.ref 65, .int a3, .int 1, .int 50] (w0.set 48 (.inl [0, 0, 0, 0, 0, 0, 1, 0])) (some (.int 0), (w0.set 48 (.inl [0, 0, 0, 0, 0, 0, 1, 0]))) := by
      refine Ef.in (md := mX6_isFrom) (L := [some (.ref 65), some (.int a3), some (.int 1), some (.int 50)]) rfl (Nat.le_of_ble_eq_true rfl) rfl ?_
      refine E_iload_n rfl rfl ?_
      refine E_iload_n rfl rfl ?_
      refine E_ic (t := 14) (b := false) rfl rfl ((cn_lt (rfl : (a3).toInt = (a3).toInt) (by decide : (1 : Int32).toInt = 1)).trans (decide_eq_false (by omega))) ?_
      refine E_iload_n rfl rfl ?_
      refine E_iload_n rfl rfl ?_
      refine E_ic (t := 14) (b := true) rfl rfl ((cn_gt (rfl : (a3).toInt = (a3).toInt) (by decide : (50 : Int32).toInt = 50)).trans (decide_eq_true (by omega))) ?_
      refine E_iconst (x := 0) rfl (by decide) ?_
      exact E_iret rfl rfl
    refine E_callV (v := some (.int 0)) (As := [.ref 65, .int a3, .int 1, .int 50]) (r0 := []) (cs2 := (w0.set 48 (.inl [0, 0, 0, 0, 0, 0, 1, 0]))) rfl rfl rfl (Nat.le_of_ble_eq_true rfl) rfl rfl e27 (by decide) rfl ?_
    refine E_if (t := 45) (b := false) rfl rfl (by decide) ?_
    refine E_aload_n rfl rfl ?_
    refine E_bipush (x := (-6)) rfl (by decide) ?_
    refine E_callV (v := some (.int (-6))) (As := [.ref 65, .int (-6)]) (r0 := []) (cs2 := ((w0.set 48 (.inl [0, 0, 0, 0, 0, 0, 1, 0])).set 66 (.inl [0, 0, 0, 0, 0, 0, 1, 0]))) rfl rfl rfl (Nat.le_of_ble_eq_true rfl) rfl rfl c9_X6_no (by decide) (by simp only [List.length_set]) ?_
    exact E_iret rfl rfl, (by simp only [List.length_set]; rfl), (by simp only [List.length_set]; rfl), ((ab_szs rfl).trans ((ab_szs rfl).trans rfl)), fun _ => rfl⟩
theorem f_piece_6 (a1 a2 a3 : Int32) (ha1l : (0 : Int) ≤ a1.toInt) (ha1h : a1.toInt ≤ 6) (ha2l : (10 : Int) ≤ a2.toInt) : p1_P 3 83 2 148 [.ref 0, .int a1, .int a2, .int a3] [.ref 65, .int a1, .int a2, .int a3] :=
  ⟨(-6), (w0.set 48 (.inl [0, 0, 0, 0, 0, 0, 1, 0])), ((w0.set 48 (.inl [0, 0, 0, 0, 0, 0, 1, 0])).set 66 (.inl [0, 0, 0, 0, 0, 0, 1, 0])), by
    refine Ef.in (md := mX5_piece) (L := [some (.ref 0), some (.int a1), some (.int a2), some (.int a3)]) rfl (Nat.le_of_ble_eq_true rfl) rfl ?_
    refine E_iload_n rfl rfl ?_
    have e2 : Ev ab_Z0 1 46 [.int a1] w0 (some (.int 1), w0) := by
      refine Ef.in (md := mX4_isKind) (L := [some (.int a1)]) rfl (Nat.le_of_ble_eq_true rfl) rfl ?_
      refine E_iload_n rfl rfl ?_
      refine E_if (t := 14) (b := false) rfl rfl ((cn_lt (rfl : (a1).toInt = (a1).toInt) (by decide : (0 : Int32).toInt = 0)).trans (decide_eq_false (by omega))) ?_
      refine E_iload_n rfl rfl ?_
      refine E_bipush (x := 7) rfl (by decide) ?_
      refine E_ic (t := 14) (b := false) rfl rfl ((cn_ge (rfl : (a1).toInt = (a1).toInt) (by decide : (7 : Int32).toInt = 7)).trans (decide_eq_false (by omega))) ?_
      refine E_iconst (x := 1) rfl (by decide) ?_
      refine E_goto (t := 15) rfl rfl ?_
      exact E_iret rfl rfl
    refine E_callS (v := some (.int 1)) (As := [.int a1]) (r0 := []) (cs2 := w0) rfl rfl rfl (Nat.le_of_ble_eq_true rfl) rfl e2 (by decide) rfl ?_
    refine E_if (t := 13) (b := true) rfl rfl (by decide) ?_
    refine E_iload_n rfl rfl ?_
    refine E_iconst (x := 0) rfl (by decide) ?_
    refine E_bipush (x := 9) rfl (by decide) ?_
    have e17 : Ev ab_Z0 1 115 [.int a2, .int 0, .int 9] w0 (some (.int 0), w0) := by
      refine Ef.in (md := mX5_isFrom) (L := [some (.int a2), some (.int 0), some (.int 9)]) rfl (Nat.le_of_ble_eq_true rfl) rfl ?_
      refine E_iload_n rfl rfl ?_
      refine E_iload_n rfl rfl ?_
      refine E_ic (t := 14) (b := false) rfl rfl ((cn_lt (rfl : (a2).toInt = (a2).toInt) (by decide : (0 : Int32).toInt = 0)).trans (decide_eq_false (by omega))) ?_
      refine E_iload_n rfl rfl ?_
      refine E_iload_n rfl rfl ?_
      refine E_ic (t := 14) (b := true) rfl rfl ((cn_gt (rfl : (a2).toInt = (a2).toInt) (by decide : (9 : Int32).toInt = 9)).trans (decide_eq_true (by omega))) ?_
      refine E_iconst (x := 0) rfl (by decide) ?_
      exact E_iret rfl rfl
    refine E_callS (v := some (.int 0)) (As := [.int a2, .int 0, .int 9]) (r0 := []) (cs2 := w0) rfl rfl rfl (Nat.le_of_ble_eq_true rfl) rfl e17 (by decide) rfl ?_
    refine E_if (t := 33) (b := true) rfl rfl (by decide) ?_
    refine E_aload_n rfl rfl ?_
    refine E_bipush (x := 6) rfl (by decide) ?_
    refine E_callV (v := some (.int (-6))) (As := [.ref 0, .int 6]) (r0 := []) (cs2 := (w0.set 48 (.inl [0, 0, 0, 0, 0, 0, 1, 0]))) rfl rfl rfl (Nat.le_of_ble_eq_true rfl) rfl rfl c7_X5_refuse (by decide) (by simp only [List.length_set]) ?_
    exact E_iret rfl rfl, by
    refine Ef.in (md := mX6_piece) (L := [some (.ref 65), some (.int a1), some (.int a2), some (.int a3)]) rfl (Nat.le_of_ble_eq_true rfl) rfl ?_
    refine E_iload_n rfl rfl ?_
    refine E_if (t := 10) (b := false) rfl rfl ((cn_lt (rfl : (a1).toInt = (a1).toInt) (by decide : (0 : Int32).toInt = 0)).trans (decide_eq_false (by omega))) ?_
    refine E_iload_n rfl rfl ?_
    refine E_bipush (x := 6) rfl (by decide) ?_
    refine E_ic (t := 16) (b := true) rfl rfl ((cn_le (rfl : (a1).toInt = (a1).toInt) (by decide : (6 : Int32).toInt = 6)).trans (decide_eq_true (by omega))) ?_
    refine E_aload_n rfl rfl ?_
    refine E_iload_n rfl rfl ?_
    refine E_iconst (x := 0) rfl (by decide) ?_
    refine E_bipush (x := 9) rfl (by decide) ?_
    have e10 : Ev ab_Z0 1 134 [.ref 65, .int a2, .int 0, .int 9] (w0.set 48 (.inl [0, 0, 0, 0, 0, 0, 1, 0])) (some (.int 0), (w0.set 48 (.inl [0, 0, 0, 0, 0, 0, 1, 0]))) := by
      refine Ef.in (md := mX6_isFrom) (L := [some (.ref 65), some (.int a2), some (.int 0), some (.int 9)]) rfl (Nat.le_of_ble_eq_true rfl) rfl ?_
      refine E_iload_n rfl rfl ?_
      refine E_iload_n rfl rfl ?_
      refine E_ic (t := 14) (b := false) rfl rfl ((cn_lt (rfl : (a2).toInt = (a2).toInt) (by decide : (0 : Int32).toInt = 0)).trans (decide_eq_false (by omega))) ?_
      refine E_iload_n rfl rfl ?_
      refine E_iload_n rfl rfl ?_
      refine E_ic (t := 14) (b := true) rfl rfl ((cn_gt (rfl : (a2).toInt = (a2).toInt) (by decide : (9 : Int32).toInt = 9)).trans (decide_eq_true (by omega))) ?_
      refine E_iconst (x := 0) rfl (by decide) ?_
      exact E_iret rfl rfl
    refine E_callV (v := some (.int 0)) (As := [.ref 65, .int a2, .int 0, .int 9]) (r0 := []) (cs2 := (w0.set 48 (.inl [0, 0, 0, 0, 0, 0, 1, 0]))) rfl rfl rfl (Nat.le_of_ble_eq_true rfl) rfl rfl e10 (by decide) rfl ?_
    refine E_if (t := 38) (b := true) rfl rfl (by decide) ?_
    refine E_aload_n rfl rfl ?_
    refine E_bipush (x := (-6)) rfl (by decide) ?_
    refine E_callV (v := some (.int (-6))) (As := [.ref 65, .int (-6)]) (r0 := []) (cs2 := ((w0.set 48 (.inl [0, 0, 0, 0, 0, 0, 1, 0])).set 66 (.inl [0, 0, 0, 0, 0, 0, 1, 0]))) rfl rfl rfl (Nat.le_of_ble_eq_true rfl) rfl rfl c9_X6_no (by decide) (by simp only [List.length_set]) ?_
    exact E_iret rfl rfl, (by simp only [List.length_set]; rfl), (by simp only [List.length_set]; rfl), ((ab_szs rfl).trans ((ab_szs rfl).trans rfl)), fun _ => rfl⟩
theorem f_piece_7 (a1 a2 a3 : Int32) (ha1l : (7 : Int) ≤ a1.toInt) : p1_P 3 83 2 148 [.ref 0, .int a1, .int a2, .int a3] [.ref 65, .int a1, .int a2, .int a3] :=
  ⟨(-1), (w0.set 48 (.inl [0, 1, 0, 0, 0, 0, 0, 0])), ((w0.set 48 (.inl [0, 1, 0, 0, 0, 0, 0, 0])).set 66 (.inl [0, 1, 0, 0, 0, 0, 0, 0])), by
    refine Ef.in (md := mX5_piece) (L := [some (.ref 0), some (.int a1), some (.int a2), some (.int a3)]) rfl (Nat.le_of_ble_eq_true rfl) rfl ?_
    refine E_iload_n rfl rfl ?_
    have e2 : Ev ab_Z0 1 46 [.int a1] w0 (some (.int 0), w0) := by
      refine Ef.in (md := mX4_isKind) (L := [some (.int a1)]) rfl (Nat.le_of_ble_eq_true rfl) rfl ?_
      refine E_iload_n rfl rfl ?_
      refine E_if (t := 14) (b := false) rfl rfl ((cn_lt (rfl : (a1).toInt = (a1).toInt) (by decide : (0 : Int32).toInt = 0)).trans (decide_eq_false (by omega))) ?_
      refine E_iload_n rfl rfl ?_
      refine E_bipush (x := 7) rfl (by decide) ?_
      refine E_ic (t := 14) (b := true) rfl rfl ((cn_ge (rfl : (a1).toInt = (a1).toInt) (by decide : (7 : Int32).toInt = 7)).trans (decide_eq_true (by omega))) ?_
      refine E_iconst (x := 0) rfl (by decide) ?_
      exact E_iret rfl rfl
    refine E_callS (v := some (.int 0)) (As := [.int a1]) (r0 := []) (cs2 := w0) rfl rfl rfl (Nat.le_of_ble_eq_true rfl) rfl e2 (by decide) rfl ?_
    refine E_if (t := 13) (b := false) rfl rfl (by decide) ?_
    refine E_aload_n rfl rfl ?_
    refine E_iconst (x := 1) rfl (by decide) ?_
    refine E_callV (v := some (.int (-1))) (As := [.ref 0, .int 1]) (r0 := []) (cs2 := (w0.set 48 (.inl [0, 1, 0, 0, 0, 0, 0, 0]))) rfl rfl rfl (Nat.le_of_ble_eq_true rfl) rfl rfl c1_X5_refuse (by decide) (by simp only [List.length_set]) ?_
    exact E_iret rfl rfl, by
    refine Ef.in (md := mX6_piece) (L := [some (.ref 65), some (.int a1), some (.int a2), some (.int a3)]) rfl (Nat.le_of_ble_eq_true rfl) rfl ?_
    refine E_iload_n rfl rfl ?_
    refine E_if (t := 10) (b := false) rfl rfl ((cn_lt (rfl : (a1).toInt = (a1).toInt) (by decide : (0 : Int32).toInt = 0)).trans (decide_eq_false (by omega))) ?_
    refine E_iload_n rfl rfl ?_
    refine E_bipush (x := 6) rfl (by decide) ?_
    refine E_ic (t := 16) (b := false) rfl rfl ((cn_le (rfl : (a1).toInt = (a1).toInt) (by decide : (6 : Int32).toInt = 6)).trans (decide_eq_false (by omega))) ?_
    refine E_aload_n rfl rfl ?_
    refine E_iconst (x := (-1)) rfl (by decide) ?_
    refine E_callV (v := some (.int (-1))) (As := [.ref 65, .int (-1)]) (r0 := []) (cs2 := ((w0.set 48 (.inl [0, 1, 0, 0, 0, 0, 0, 0])).set 66 (.inl [0, 1, 0, 0, 0, 0, 0, 0]))) rfl rfl rfl (Nat.le_of_ble_eq_true rfl) rfl rfl c3_X6_no (by decide) (by simp only [List.length_set]) ?_
    exact E_iret rfl rfl, (by simp only [List.length_set]; rfl), (by simp only [List.length_set]; rfl), ((ab_szs rfl).trans ((ab_szs rfl).trans rfl)), fun _ => rfl⟩
theorem f_piece (a1 a2 a3 : Int32) : p1_P 3 83 2 148 [.ref 0, .int a1, .int a2, .int a3] [.ref 65, .int a1, .int a2, .int a3] := by
  rcases ab_ltge a1.toInt (0) with h | h
  · exact f_piece_1 a1 a2 a3 (by omega)
  rcases ab_ltge a1.toInt (7) with h | h
  · rcases ab_ltge a2.toInt (0) with h | h
    · exact f_piece_2 a1 a2 a3 (by omega) (by omega) (by omega)
    rcases ab_ltge a2.toInt (10) with h | h
    · rcases ab_ltge a3.toInt (1) with h | h
      · exact f_piece_3 a1 a2 a3 (by omega) (by omega) (by omega) (by omega) (by omega)
      rcases ab_ltge a3.toInt (51) with h | h
      · exact f_piece_4 a1 a2 a3 (by omega) (by omega) (by omega) (by omega) (by omega) (by omega)
      exact f_piece_5 a1 a2 a3 (by omega) (by omega) (by omega) (by omega) (by omega)
    exact f_piece_6 a1 a2 a3 (by omega) (by omega) (by omega)
  exact f_piece_7 a1 a2 a3 (by omega)
