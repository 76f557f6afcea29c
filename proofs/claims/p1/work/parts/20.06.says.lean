theorem f_says_1 (a1 a2 : Int32) (ha1h : a1.toInt ≤ -1) : p1_P 3 82 2 141 [.ref 0, .int a1, .int a2] [.ref 65, .int a1, .int a2] :=
  ⟨(-1), (w0.set 48 (.inl [0, 1, 0, 0, 0, 0, 0, 0])), ((w0.set 48 (.inl [0, 1, 0, 0, 0, 0, 0, 0])).set 66 (.inl [0, 1, 0, 0, 0, 0, 0, 0])), by
    refine Ef.in (md := mX5_says) (L := [some (.ref 0), some (.int a1), some (.int a2), none, none]) rfl (Nat.le_of_ble_eq_true rfl) rfl ?_
    refine E_iload_n rfl rfl ?_
    have e2 : Ev ab_Z0 1 117 [.int a1] w0 (some (.int 0), w0) := by
      refine Ef.in (md := mX5_isShelf) (L := [some (.int a1)]) rfl (Nat.le_of_ble_eq_true rfl) rfl ?_
      refine E_iload_n rfl rfl ?_
      refine E_if (t := 14) (b := true) rfl rfl ((cn_lt (rfl : (a1).toInt = (a1).toInt) (by decide : (0 : Int32).toInt = 0)).trans (decide_eq_true (by omega))) ?_
      refine E_iconst (x := 0) rfl (by decide) ?_
      exact E_iret rfl rfl
    refine E_callS (v := some (.int 0)) (As := [.int a1]) (r0 := []) (cs2 := w0) rfl rfl rfl (Nat.le_of_ble_eq_true rfl) rfl e2 (by decide) rfl ?_
    refine E_if (t := 14) (b := true) rfl rfl (by decide) ?_
    refine E_aload_n rfl rfl ?_
    refine E_iconst (x := 1) rfl (by decide) ?_
    refine E_callV (v := some (.int (-1))) (As := [.ref 0, .int 1]) (r0 := []) (cs2 := (w0.set 48 (.inl [0, 1, 0, 0, 0, 0, 0, 0]))) rfl rfl rfl (Nat.le_of_ble_eq_true rfl) rfl rfl c1_X5_refuse (by decide) (by simp only [List.length_set]) ?_
    exact E_iret rfl rfl, by
    refine Ef.in (md := mX6_says) (L := [some (.ref 65), some (.int a1), some (.int a2), none, none, none]) rfl (Nat.le_of_ble_eq_true rfl) rfl ?_
    refine E_aload_n rfl rfl ?_
    refine E_iload_n rfl rfl ?_
    have e3 : Ev ab_Z0 1 131 [.ref 65, .int a1] (w0.set 48 (.inl [0, 1, 0, 0, 0, 0, 0, 0])) (some (.int 0), (w0.set 48 (.inl [0, 1, 0, 0, 0, 0, 0, 0]))) := by
      refine Ef.in (md := mX6_isShelf) (L := [some (.ref 65), some (.int a1)]) rfl (Nat.le_of_ble_eq_true rfl) rfl ?_
      refine E_iload_n rfl rfl ?_
      refine E_if (t := 14) (b := true) rfl rfl ((cn_lt (rfl : (a1).toInt = (a1).toInt) (by decide : (0 : Int32).toInt = 0)).trans (decide_eq_true (by omega))) ?_
      refine E_iconst (x := 0) rfl (by decide) ?_
      exact E_iret rfl rfl
    refine E_callV (v := some (.int 0)) (As := [.ref 65, .int a1]) (r0 := []) (cs2 := (w0.set 48 (.inl [0, 1, 0, 0, 0, 0, 0, 0]))) rfl rfl rfl (Nat.le_of_ble_eq_true rfl) rfl rfl e3 (by decide) rfl ?_
    refine E_if (t := 18) (b := true) rfl rfl (by decide) ?_
    refine E_aload_n rfl rfl ?_
    refine E_iconst (x := (-1)) rfl (by decide) ?_
    refine E_callV (v := some (.int (-1))) (As := [.ref 65, .int (-1)]) (r0 := []) (cs2 := ((w0.set 48 (.inl [0, 1, 0, 0, 0, 0, 0, 0])).set 66 (.inl [0, 1, 0, 0, 0, 0, 0, 0]))) rfl rfl rfl (Nat.le_of_ble_eq_true rfl) rfl rfl c3_X6_no (by decide) (by simp only [List.length_set]) ?_
    exact E_iret rfl rfl, (by simp only [List.length_set]; rfl), (by simp only [List.length_set]; rfl), ((ab_szs rfl).trans ((ab_szs rfl).trans rfl)), fun _ => rfl⟩
theorem f_says_2 (a1 a2 : Int32) (ha1l : (0 : Int) ≤ a1.toInt) (ha1h : a1.toInt ≤ 7) (ha2h : a2.toInt ≤ -1) : p1_P 3 82 2 141 [.ref 0, .int a1, .int a2] [.ref 65, .int a1, .int a2] :=
  ⟨(-1), (w0.set 48 (.inl [0, 1, 0, 0, 0, 0, 0, 0])), ((w0.set 48 (.inl [0, 1, 0, 0, 0, 0, 0, 0])).set 66 (.inl [0, 1, 0, 0, 0, 0, 0, 0])), by
    refine Ef.in (md := mX5_says) (L := [some (.ref 0), some (.int a1), some (.int a2), none, none]) rfl (Nat.le_of_ble_eq_true rfl) rfl ?_
    refine E_iload_n rfl rfl ?_
    have e2 : Ev ab_Z0 1 117 [.int a1] w0 (some (.int 1), w0) := by
      refine Ef.in (md := mX5_isShelf) (L := [some (.int a1)]) rfl (Nat.le_of_ble_eq_true rfl) rfl ?_
      refine E_iload_n rfl rfl ?_
      refine E_if (t := 14) (b := false) rfl rfl ((cn_lt (rfl : (a1).toInt = (a1).toInt) (by decide : (0 : Int32).toInt = 0)).trans (decide_eq_false (by omega))) ?_
      refine E_iload_n rfl rfl ?_
      refine E_bipush (x := 8) rfl (by decide) ?_
      refine E_ic (t := 14) (b := false) rfl rfl ((cn_ge (rfl : (a1).toInt = (a1).toInt) (by decide : (8 : Int32).toInt = 8)).trans (decide_eq_false (by omega))) ?_
      refine E_iconst (x := 1) rfl (by decide) ?_
      refine E_goto (t := 15) rfl rfl ?_
      exact E_iret rfl rfl
    refine E_callS (v := some (.int 1)) (As := [.int a1]) (r0 := []) (cs2 := w0) rfl rfl rfl (Nat.le_of_ble_eq_true rfl) rfl e2 (by decide) rfl ?_
    refine E_if (t := 14) (b := false) rfl rfl (by decide) ?_
    refine E_iload_n rfl rfl ?_
    have e15 : Ev ab_Z0 1 46 [.int a2] w0 (some (.int 0), w0) := by
      refine Ef.in (md := mX4_isKind) (L := [some (.int a2)]) rfl (Nat.le_of_ble_eq_true rfl) rfl ?_
      refine E_iload_n rfl rfl ?_
      refine E_if (t := 14) (b := true) rfl rfl ((cn_lt (rfl : (a2).toInt = (a2).toInt) (by decide : (0 : Int32).toInt = 0)).trans (decide_eq_true (by omega))) ?_
      refine E_iconst (x := 0) rfl (by decide) ?_
      exact E_iret rfl rfl
    refine E_callS (v := some (.int 0)) (As := [.int a2]) (r0 := []) (cs2 := w0) rfl rfl rfl (Nat.le_of_ble_eq_true rfl) rfl e15 (by decide) rfl ?_
    refine E_if (t := 20) (b := false) rfl rfl (by decide) ?_
    refine E_aload_n rfl rfl ?_
    refine E_iconst (x := 1) rfl (by decide) ?_
    refine E_callV (v := some (.int (-1))) (As := [.ref 0, .int 1]) (r0 := []) (cs2 := (w0.set 48 (.inl [0, 1, 0, 0, 0, 0, 0, 0]))) rfl rfl rfl (Nat.le_of_ble_eq_true rfl) rfl rfl c1_X5_refuse (by decide) (by simp only [List.length_set]) ?_
    exact E_iret rfl rfl, by
    refine Ef.in (md := mX6_says) (L := [some (.ref 65), some (.int a1), some (.int a2), none, none, none]) rfl (Nat.le_of_ble_eq_true rfl) rfl ?_
    refine E_aload_n rfl rfl ?_
    refine E_iload_n rfl rfl ?_
    have e3 : Ev ab_Z0 1 131 [.ref 65, .int a1] (w0.set 48 (.inl [0, 1, 0, 0, 0, 0, 0, 0])) (some (.int 1), (w0.set 48 (.inl [0, 1, 0, 0, 0, 0, 0, 0]))) := by
      refine Ef.in (md := mX6_isShelf) (L := [some (.ref 65), some (.int a1)]) rfl (Nat.le_of_ble_eq_true rfl) rfl ?_
      refine E_iload_n rfl rfl ?_
      refine E_if (t := 14) (b := false) rfl rfl ((cn_lt (rfl : (a1).toInt = (a1).toInt) (by decide : (0 : Int32).toInt = 0)).trans (decide_eq_false (by omega))) ?_
      refine E_iload_n rfl rfl ?_
      refine E_bipush (x := 8) rfl (by decide) ?_
      refine E_ic (t := 14) (b := false) rfl rfl ((cn_ge (rfl : (a1).toInt = (a1).toInt) (by decide : (8 : Int32).toInt = 8)).trans (decide_eq_false (by omega))) ?_
      refine E_iconst (x := 1) rfl (by decide) ?_
      refine E_goto (t := 15) rfl rfl ?_
      exact E_iret rfl rfl
    refine E_callV (v := some (.int 1)) (As := [.ref 65, .int a1]) (r0 := []) (cs2 := (w0.set 48 (.inl [0, 1, 0, 0, 0, 0, 0, 0]))) rfl rfl rfl (Nat.le_of_ble_eq_true rfl) rfl rfl e3 (by decide) rfl ?_
    refine E_if (t := 18) (b := false) rfl rfl (by decide) ?_
    refine E_iload_n rfl rfl ?_
    refine E_if (t := 18) (b := true) rfl rfl ((cn_lt (rfl : (a2).toInt = (a2).toInt) (by decide : (0 : Int32).toInt = 0)).trans (decide_eq_true (by omega))) ?_
    refine E_aload_n rfl rfl ?_
    refine E_iconst (x := (-1)) rfl (by decide) ?_
    refine E_callV (v := some (.int (-1))) (As := [.ref 65, .int (-1)]) (r0 := []) (cs2 := ((w0.set 48 (.inl [0, 1, 0, 0, 0, 0, 0, 0])).set 66 (.inl [0, 1, 0, 0, 0, 0, 0, 0]))) rfl rfl rfl (Nat.le_of_ble_eq_true rfl) rfl rfl c3_X6_no (by decide) (by simp only [List.length_set]) ?_
    exact E_iret rfl rfl, (by simp only [List.length_set]; rfl), (by simp only [List.length_set]; rfl), ((ab_szs rfl).trans ((ab_szs rfl).trans rfl)), fun _ => rfl⟩
theorem f_says_3 (a2 : Int32) (ha2l : (0 : Int) ≤ a2.toInt) (ha2h : a2.toInt ≤ 6) : p1_P 3 82 2 141 [.ref 0, .int 0, .int a2] [.ref 65, .int 0, .int a2] :=
  ⟨(-3), (w0.set 48 (.inl [0, 0, 0, 1, 0, 0, 0, 0])), ((w0.set 48 (.inl [0, 0, 0, 1, 0, 0, 0, 0])).set 66 (.inl [0, 0, 0, 1, 0, 0, 0, 0])), by
    refine Ef.in (md := mX5_says) (L := [some (.ref 0), some (.int 0), some (.int a2), none, none]) rfl (Nat.le_of_ble_eq_true rfl) rfl ?_
    refine E_iload_n rfl rfl ?_
    refine E_callS (v := some (.int 1)) (As := [.int 0]) (r0 := []) (cs2 := w0) rfl rfl rfl (Nat.le_of_ble_eq_true rfl) rfl c10_X5_isShelf (by decide) rfl ?_
    refine E_if (t := 14) (b := false) rfl rfl (by decide) ?_
    refine E_iload_n rfl rfl ?_
    have e5 : Ev ab_Z0 1 46 [.int a2] w0 (some (.int 1), w0) := by
      refine Ef.in (md := mX4_isKind) (L := [some (.int a2)]) rfl (Nat.le_of_ble_eq_true rfl) rfl ?_
      refine E_iload_n rfl rfl ?_
      refine E_if (t := 14) (b := false) rfl rfl ((cn_lt (rfl : (a2).toInt = (a2).toInt) (by decide : (0 : Int32).toInt = 0)).trans (decide_eq_false (by omega))) ?_
      refine E_iload_n rfl rfl ?_
      refine E_bipush (x := 7) rfl (by decide) ?_
      refine E_ic (t := 14) (b := false) rfl rfl ((cn_ge (rfl : (a2).toInt = (a2).toInt) (by decide : (7 : Int32).toInt = 7)).trans (decide_eq_false (by omega))) ?_
      refine E_iconst (x := 1) rfl (by decide) ?_
      refine E_goto (t := 15) rfl rfl ?_
      exact E_iret rfl rfl
    refine E_callS (v := some (.int 1)) (As := [.int a2]) (r0 := []) (cs2 := w0) rfl rfl rfl (Nat.le_of_ble_eq_true rfl) rfl e5 (by decide) rfl ?_
    refine E_if (t := 20) (b := true) rfl rfl (by decide) ?_
    refine E_aload_n rfl rfl ?_
    refine E_getfield (v := .ref 31) rfl rfl rfl (by decide) rfl ?_
    refine E_iload_n rfl rfl ?_
    refine E_aaload (b := 49) (j := 0) rfl rfl (by decide) (by decide) rfl ?_
    refine E_astore_n (L2 := [some (.ref 0), some (.int 0), some (.int a2), some (.ref 49), none]) rfl rfl ?_
    refine E_aload_n rfl rfl ?_
    refine E_callV (v := some (.int 1)) (As := [.ref 49]) (r0 := []) (cs2 := w0) rfl rfl rfl (Nat.le_of_ble_eq_true rfl) rfl rfl c31_X3_isEmpty (by decide) rfl ?_
    refine E_if (t := 40) (b := false) rfl rfl (by decide) ?_
    refine E_aload_n rfl rfl ?_
    refine E_iconst (x := 3) rfl (by decide) ?_
    refine E_callV (v := some (.int (-3))) (As := [.ref 0, .int 3]) (r0 := []) (cs2 := (w0.set 48 (.inl [0, 0, 0, 1, 0, 0, 0, 0]))) rfl rfl rfl (Nat.le_of_ble_eq_true rfl) rfl rfl c32_X5_refuse (by decide) (by simp only [List.length_set]) ?_
    exact E_iret rfl rfl, by
    refine Ef.in (md := mX6_says) (L := [some (.ref 65), some (.int 0), some (.int a2), none, none, none]) rfl (Nat.le_of_ble_eq_true rfl) rfl ?_
    refine E_aload_n rfl rfl ?_
    refine E_iload_n rfl rfl ?_
    refine E_callV (v := some (.int 1)) (As := [.ref 65, .int 0]) (r0 := []) (cs2 := (w0.set 48 (.inl [0, 0, 0, 1, 0, 0, 0, 0]))) rfl rfl rfl (Nat.le_of_ble_eq_true rfl) rfl rfl c34_X6_isShelf (by decide) rfl ?_
    refine E_if (t := 18) (b := false) rfl rfl (by decide) ?_
    refine E_iload_n rfl rfl ?_
    refine E_if (t := 18) (b := false) rfl rfl ((cn_lt (rfl : (a2).toInt = (a2).toInt) (by decide : (0 : Int32).toInt = 0)).trans (decide_eq_false (by omega))) ?_
    refine E_iload_n rfl rfl ?_
    refine E_bipush (x := 6) rfl (by decide) ?_
    refine E_ic (t := 24) (b := true) rfl rfl ((cn_le (rfl : (a2).toInt = (a2).toInt) (by decide : (6 : Int32).toInt = 6)).trans (decide_eq_true (by omega))) ?_
    refine E_aload_n rfl rfl ?_
    refine E_getfield (v := .ref 76) rfl rfl rfl (by decide) rfl ?_
    refine E_iload_n rfl rfl ?_
    refine E_iaload (x := 0) (j := 0) rfl rfl (by decide) (by decide) rfl ?_
    refine E_iconst (x := 1) rfl (by decide) ?_
    refine E_ic (t := 41) (b := true) rfl rfl (by decide) ?_
    refine E_aload_n rfl rfl ?_
    refine E_getfield (v := .ref 76) rfl rfl rfl (by decide) rfl ?_
    refine E_iload_n rfl rfl ?_
    refine E_iaload (x := 0) (j := 0) rfl rfl (by decide) (by decide) rfl ?_
    refine E_if (t := 57) (b := false) rfl rfl (by decide) ?_
    refine E_aload_n rfl rfl ?_
    refine E_bipush (x := (-3)) rfl (by decide) ?_
    refine E_callV (v := some (.int (-3))) (As := [.ref 65, .int (-3)]) (r0 := []) (cs2 := ((w0.set 48 (.inl [0, 0, 0, 1, 0, 0, 0, 0])).set 66 (.inl [0, 0, 0, 1, 0, 0, 0, 0]))) rfl rfl rfl (Nat.le_of_ble_eq_true rfl) rfl rfl c35_X6_no (by decide) (by simp only [List.length_set]) ?_
    exact E_iret rfl rfl, (by simp only [List.length_set]; rfl), (by simp only [List.length_set]; rfl), ((ab_szs rfl).trans ((ab_szs rfl).trans rfl)), fun _ => rfl⟩
theorem f_says_4 (a2 : Int32) (ha2l : (0 : Int) ≤ a2.toInt) (ha2h : a2.toInt ≤ 6) : p1_P 3 82 2 141 [.ref 0, .int 1, .int a2] [.ref 65, .int 1, .int a2] :=
  ⟨(-3), (w0.set 48 (.inl [0, 0, 0, 1, 0, 0, 0, 0])), ((w0.set 48 (.inl [0, 0, 0, 1, 0, 0, 0, 0])).set 66 (.inl [0, 0, 0, 1, 0, 0, 0, 0])), by
    refine Ef.in (md := mX5_says) (L := [some (.ref 0), some (.int 1), some (.int a2), none, none]) rfl (Nat.le_of_ble_eq_true rfl) rfl ?_
    refine E_iload_n rfl rfl ?_
    refine E_callS (v := some (.int 1)) (As := [.int 1]) (r0 := []) (cs2 := w0) rfl rfl rfl (Nat.le_of_ble_eq_true rfl) rfl c12_X5_isShelf (by decide) rfl ?_
    refine E_if (t := 14) (b := false) rfl rfl (by decide) ?_
    refine E_iload_n rfl rfl ?_
    have e5 : Ev ab_Z0 1 46 [.int a2] w0 (some (.int 1), w0) := by
      refine Ef.in (md := mX4_isKind) (L := [some (.int a2)]) rfl (Nat.le_of_ble_eq_true rfl) rfl ?_
      refine E_iload_n rfl rfl ?_
      refine E_if (t := 14) (b := false) rfl rfl ((cn_lt (rfl : (a2).toInt = (a2).toInt) (by decide : (0 : Int32).toInt = 0)).trans (decide_eq_false (by omega))) ?_
      refine E_iload_n rfl rfl ?_
      refine E_bipush (x := 7) rfl (by decide) ?_
      refine E_ic (t := 14) (b := false) rfl rfl ((cn_ge (rfl : (a2).toInt = (a2).toInt) (by decide : (7 : Int32).toInt = 7)).trans (decide_eq_false (by omega))) ?_
      refine E_iconst (x := 1) rfl (by decide) ?_
      refine E_goto (t := 15) rfl rfl ?_
      exact E_iret rfl rfl
    refine E_callS (v := some (.int 1)) (As := [.int a2]) (r0 := []) (cs2 := w0) rfl rfl rfl (Nat.le_of_ble_eq_true rfl) rfl e5 (by decide) rfl ?_
    refine E_if (t := 20) (b := true) rfl rfl (by decide) ?_
    refine E_aload_n rfl rfl ?_
    refine E_getfield (v := .ref 31) rfl rfl rfl (by decide) rfl ?_
    refine E_iload_n rfl rfl ?_
    refine E_aaload (b := 51) (j := 1) rfl rfl (by decide) (by decide) rfl ?_
    refine E_astore_n (L2 := [some (.ref 0), some (.int 1), some (.int a2), some (.ref 51), none]) rfl rfl ?_
    refine E_aload_n rfl rfl ?_
    refine E_callV (v := some (.int 1)) (As := [.ref 51]) (r0 := []) (cs2 := w0) rfl rfl rfl (Nat.le_of_ble_eq_true rfl) rfl rfl c38_X3_isEmpty (by decide) rfl ?_
    refine E_if (t := 40) (b := false) rfl rfl (by decide) ?_
    refine E_aload_n rfl rfl ?_
    refine E_iconst (x := 3) rfl (by decide) ?_
    refine E_callV (v := some (.int (-3))) (As := [.ref 0, .int 3]) (r0 := []) (cs2 := (w0.set 48 (.inl [0, 0, 0, 1, 0, 0, 0, 0]))) rfl rfl rfl (Nat.le_of_ble_eq_true rfl) rfl rfl c32_X5_refuse (by decide) (by simp only [List.length_set]) ?_
    exact E_iret rfl rfl, by
    refine Ef.in (md := mX6_says) (L := [some (.ref 65), some (.int 1), some (.int a2), none, none, none]) rfl (Nat.le_of_ble_eq_true rfl) rfl ?_
    refine E_aload_n rfl rfl ?_
    refine E_iload_n rfl rfl ?_
    refine E_callV (v := some (.int 1)) (As := [.ref 65, .int 1]) (r0 := []) (cs2 := (w0.set 48 (.inl [0, 0, 0, 1, 0, 0, 0, 0]))) rfl rfl rfl (Nat.le_of_ble_eq_true rfl) rfl rfl c39_X6_isShelf (by decide) rfl ?_
    refine E_if (t := 18) (b := false) rfl rfl (by decide) ?_
    refine E_iload_n rfl rfl ?_
    refine E_if (t := 18) (b := false) rfl rfl ((cn_lt (rfl : (a2).toInt = (a2).toInt) (by decide : (0 : Int32).toInt = 0)).trans (decide_eq_false (by omega))) ?_
    refine E_iload_n rfl rfl ?_
    refine E_bipush (x := 6) rfl (by decide) ?_
    refine E_ic (t := 24) (b := true) rfl rfl ((cn_le (rfl : (a2).toInt = (a2).toInt) (by decide : (6 : Int32).toInt = 6)).trans (decide_eq_true (by omega))) ?_
    refine E_aload_n rfl rfl ?_
    refine E_getfield (v := .ref 76) rfl rfl rfl (by decide) rfl ?_
    refine E_iload_n rfl rfl ?_
    refine E_iaload (x := 0) (j := 1) rfl rfl (by decide) (by decide) rfl ?_
    refine E_iconst (x := 1) rfl (by decide) ?_
    refine E_ic (t := 41) (b := true) rfl rfl (by decide) ?_
    refine E_aload_n rfl rfl ?_
    refine E_getfield (v := .ref 76) rfl rfl rfl (by decide) rfl ?_
    refine E_iload_n rfl rfl ?_
    refine E_iaload (x := 0) (j := 1) rfl rfl (by decide) (by decide) rfl ?_
    refine E_if (t := 57) (b := false) rfl rfl (by decide) ?_
    refine E_aload_n rfl rfl ?_
    refine E_bipush (x := (-3)) rfl (by decide) ?_
    refine E_callV (v := some (.int (-3))) (As := [.ref 65, .int (-3)]) (r0 := []) (cs2 := ((w0.set 48 (.inl [0, 0, 0, 1, 0, 0, 0, 0])).set 66 (.inl [0, 0, 0, 1, 0, 0, 0, 0]))) rfl rfl rfl (Nat.le_of_ble_eq_true rfl) rfl rfl c35_X6_no (by decide) (by simp only [List.length_set]) ?_
    exact E_iret rfl rfl, (by simp only [List.length_set]; rfl), (by simp only [List.length_set]; rfl), ((ab_szs rfl).trans ((ab_szs rfl).trans rfl)), fun _ => rfl⟩
theorem f_says_5 (a2 : Int32) (ha2l : (0 : Int) ≤ a2.toInt) (ha2h : a2.toInt ≤ 6) : p1_P 3 82 2 141 [.ref 0, .int 2, .int a2] [.ref 65, .int 2, .int a2] :=
  ⟨(-3), (w0.set 48 (.inl [0, 0, 0, 1, 0, 0, 0, 0])), ((w0.set 48 (.inl [0, 0, 0, 1, 0, 0, 0, 0])).set 66 (.inl [0, 0, 0, 1, 0, 0, 0, 0])), by
    refine Ef.in (md := mX5_says) (L := [some (.ref 0), some (.int 2), some (.int a2), none, none]) rfl (Nat.le_of_ble_eq_true rfl) rfl ?_
    refine E_iload_n rfl rfl ?_
    refine E_callS (v := some (.int 1)) (As := [.int 2]) (r0 := []) (cs2 := w0) rfl rfl rfl (Nat.le_of_ble_eq_true rfl) rfl c14_X5_isShelf (by decide) rfl ?_
    refine E_if (t := 14) (b := false) rfl rfl (by decide) ?_
    refine E_iload_n rfl rfl ?_
    have e5 : Ev ab_Z0 1 46 [.int a2] w0 (some (.int 1), w0) := by
      refine Ef.in (md := mX4_isKind) (L := [some (.int a2)]) rfl (Nat.le_of_ble_eq_true rfl) rfl ?_
      refine E_iload_n rfl rfl ?_
      refine E_if (t := 14) (b := false) rfl rfl ((cn_lt (rfl : (a2).toInt = (a2).toInt) (by decide : (0 : Int32).toInt = 0)).trans (decide_eq_false (by omega))) ?_
      refine E_iload_n rfl rfl ?_
      refine E_bipush (x := 7) rfl (by decide) ?_
      refine E_ic (t := 14) (b := false) rfl rfl ((cn_ge (rfl : (a2).toInt = (a2).toInt) (by decide : (7 : Int32).toInt = 7)).trans (decide_eq_false (by omega))) ?_
      refine E_iconst (x := 1) rfl (by decide) ?_
      refine E_goto (t := 15) rfl rfl ?_
      exact E_iret rfl rfl
    refine E_callS (v := some (.int 1)) (As := [.int a2]) (r0 := []) (cs2 := w0) rfl rfl rfl (Nat.le_of_ble_eq_true rfl) rfl e5 (by decide) rfl ?_
    refine E_if (t := 20) (b := true) rfl rfl (by decide) ?_
    refine E_aload_n rfl rfl ?_
    refine E_getfield (v := .ref 31) rfl rfl rfl (by decide) rfl ?_
    refine E_iload_n rfl rfl ?_
    refine E_aaload (b := 53) (j := 2) rfl rfl (by decide) (by decide) rfl ?_
    refine E_astore_n (L2 := [some (.ref 0), some (.int 2), some (.int a2), some (.ref 53), none]) rfl rfl ?_
    refine E_aload_n rfl rfl ?_
    refine E_callV (v := some (.int 1)) (As := [.ref 53]) (r0 := []) (cs2 := w0) rfl rfl rfl (Nat.le_of_ble_eq_true rfl) rfl rfl c42_X3_isEmpty (by decide) rfl ?_
    refine E_if (t := 40) (b := false) rfl rfl (by decide) ?_
    refine E_aload_n rfl rfl ?_
    refine E_iconst (x := 3) rfl (by decide) ?_
    refine E_callV (v := some (.int (-3))) (As := [.ref 0, .int 3]) (r0 := []) (cs2 := (w0.set 48 (.inl [0, 0, 0, 1, 0, 0, 0, 0]))) rfl rfl rfl (Nat.le_of_ble_eq_true rfl) rfl rfl c32_X5_refuse (by decide) (by simp only [List.length_set]) ?_
    exact E_iret rfl rfl, by
    refine Ef.in (md := mX6_says) (L := [some (.ref 65), some (.int 2), some (.int a2), none, none, none]) rfl (Nat.le_of_ble_eq_true rfl) rfl ?_
    refine E_aload_n rfl rfl ?_
    refine E_iload_n rfl rfl ?_
    refine E_callV (v := some (.int 1)) (As := [.ref 65, .int 2]) (r0 := []) (cs2 := (w0.set 48 (.inl [0, 0, 0, 1, 0, 0, 0, 0]))) rfl rfl rfl (Nat.le_of_ble_eq_true rfl) rfl rfl c43_X6_isShelf (by decide) rfl ?_
    refine E_if (t := 18) (b := false) rfl rfl (by decide) ?_
    refine E_iload_n rfl rfl ?_
    refine E_if (t := 18) (b := false) rfl rfl ((cn_lt (rfl : (a2).toInt = (a2).toInt) (by decide : (0 : Int32).toInt = 0)).trans (decide_eq_false (by omega))) ?_
    refine E_iload_n rfl rfl ?_
    refine E_bipush (x := 6) rfl (by decide) ?_
    refine E_ic (t := 24) (b := true) rfl rfl ((cn_le (rfl : (a2).toInt = (a2).toInt) (by decide : (6 : Int32).toInt = 6)).trans (decide_eq_true (by omega))) ?_
    refine E_aload_n rfl rfl ?_
    refine E_getfield (v := .ref 76) rfl rfl rfl (by decide) rfl ?_
    refine E_iload_n rfl rfl ?_
    refine E_iaload (x := 0) (j := 2) rfl rfl (by decide) (by decide) rfl ?_
    refine E_iconst (x := 1) rfl (by decide) ?_
    refine E_ic (t := 41) (b := true) rfl rfl (by decide) ?_
    refine E_aload_n rfl rfl ?_
    refine E_getfield (v := .ref 76) rfl rfl rfl (by decide) rfl ?_
    refine E_iload_n rfl rfl ?_
    refine E_iaload (x := 0) (j := 2) rfl rfl (by decide) (by decide) rfl ?_
    refine E_if (t := 57) (b := false) rfl rfl (by decide) ?_
    refine E_aload_n rfl rfl ?_
    refine E_bipush (x := (-3)) rfl (by decide) ?_
    refine E_callV (v := some (.int (-3))) (As := [.ref 65, .int (-3)]) (r0 := []) (cs2 := ((w0.set 48 (.inl [0, 0, 0, 1, 0, 0, 0, 0])).set 66 (.inl [0, 0, 0, 1, 0, 0, 0, 0]))) rfl rfl rfl (Nat.le_of_ble_eq_true rfl) rfl rfl c35_X6_no (by decide) (by simp only [List.length_set]) ?_
    exact E_iret rfl rfl, (by simp only [List.length_set]; rfl), (by simp only [List.length_set]; rfl), ((ab_szs rfl).trans ((ab_szs rfl).trans rfl)), fun _ => rfl⟩
theorem f_says_6 (a2 : Int32) (ha2l : (0 : Int) ≤ a2.toInt) (ha2h : a2.toInt ≤ 6) : p1_P 3 82 2 141 [.ref 0, .int 3, .int a2] [.ref 65, .int 3, .int a2] :=
  ⟨(-3), (w0.set 48 (.inl [0, 0, 0, 1, 0, 0, 0, 0])), ((w0.set 48 (.inl [0, 0, 0, 1, 0, 0, 0, 0])).set 66 (.inl [0, 0, 0, 1, 0, 0, 0, 0])), by
    refine Ef.in (md := mX5_says) (L := [some (.ref 0), some (.int 3), some (.int a2), none, none]) rfl (Nat.le_of_ble_eq_true rfl) rfl ?_
    refine E_iload_n rfl rfl ?_
    refine E_callS (v := some (.int 1)) (As := [.int 3]) (r0 := []) (cs2 := w0) rfl rfl rfl (Nat.le_of_ble_eq_true rfl) rfl c16_X5_isShelf (by decide) rfl ?_
    refine E_if (t := 14) (b := false) rfl rfl (by decide) ?_
    refine E_iload_n rfl rfl ?_
    have e5 : Ev ab_Z0 1 46 [.int a2] w0 (some (.int 1), w0) := by
      refine Ef.in (md := mX4_isKind) (L := [some (.int a2)]) rfl (Nat.le_of_ble_eq_true rfl) rfl ?_
      refine E_iload_n rfl rfl ?_
      refine E_if (t := 14) (b := false) rfl rfl ((cn_lt (rfl : (a2).toInt = (a2).toInt) (by decide : (0 : Int32).toInt = 0)).trans (decide_eq_false (by omega))) ?_
      refine E_iload_n rfl rfl ?_
      refine E_bipush (x := 7) rfl (by decide) ?_
      refine E_ic (t := 14) (b := false) rfl rfl ((cn_ge (rfl : (a2).toInt = (a2).toInt) (by decide : (7 : Int32).toInt = 7)).trans (decide_eq_false (by omega))) ?_
      refine E_iconst (x := 1) rfl (by decide) ?_
      refine E_goto (t := 15) rfl rfl ?_
      exact E_iret rfl rfl
    refine E_callS (v := some (.int 1)) (As := [.int a2]) (r0 := []) (cs2 := w0) rfl rfl rfl (Nat.le_of_ble_eq_true rfl) rfl e5 (by decide) rfl ?_
    refine E_if (t := 20) (b := true) rfl rfl (by decide) ?_
    refine E_aload_n rfl rfl ?_
    refine E_getfield (v := .ref 31) rfl rfl rfl (by decide) rfl ?_
    refine E_iload_n rfl rfl ?_
    refine E_aaload (b := 55) (j := 3) rfl rfl (by decide) (by decide) rfl ?_
    refine E_astore_n (L2 := [some (.ref 0), some (.int 3), some (.int a2), some (.ref 55), none]) rfl rfl ?_
    refine E_aload_n rfl rfl ?_
    refine E_callV (v := some (.int 1)) (As := [.ref 55]) (r0 := []) (cs2 := w0) rfl rfl rfl (Nat.le_of_ble_eq_true rfl) rfl rfl c46_X3_isEmpty (by decide) rfl ?_
    refine E_if (t := 40) (b := false) rfl rfl (by decide) ?_
    refine E_aload_n rfl rfl ?_
    refine E_iconst (x := 3) rfl (by decide) ?_
    refine E_callV (v := some (.int (-3))) (As := [.ref 0, .int 3]) (r0 := []) (cs2 := (w0.set 48 (.inl [0, 0, 0, 1, 0, 0, 0, 0]))) rfl rfl rfl (Nat.le_of_ble_eq_true rfl) rfl rfl c32_X5_refuse (by decide) (by simp only [List.length_set]) ?_
    exact E_iret rfl rfl, by
    refine Ef.in (md := mX6_says) (L := [some (.ref 65), some (.int 3), some (.int a2), none, none, none]) rfl (Nat.le_of_ble_eq_true rfl) rfl ?_
    refine E_aload_n rfl rfl ?_
    refine E_iload_n rfl rfl ?_
    refine E_callV (v := some (.int 1)) (As := [.ref 65, .int 3]) (r0 := []) (cs2 := (w0.set 48 (.inl [0, 0, 0, 1, 0, 0, 0, 0]))) rfl rfl rfl (Nat.le_of_ble_eq_true rfl) rfl rfl c47_X6_isShelf (by decide) rfl ?_
    refine E_if (t := 18) (b := false) rfl rfl (by decide) ?_
    refine E_iload_n rfl rfl ?_
    refine E_if (t := 18) (b := false) rfl rfl ((cn_lt (rfl : (a2).toInt = (a2).toInt) (by decide : (0 : Int32).toInt = 0)).trans (decide_eq_false (by omega))) ?_
    refine E_iload_n rfl rfl ?_
    refine E_bipush (x := 6) rfl (by decide) ?_
    refine E_ic (t := 24) (b := true) rfl rfl ((cn_le (rfl : (a2).toInt = (a2).toInt) (by decide : (6 : Int32).toInt = 6)).trans (decide_eq_true (by omega))) ?_
    refine E_aload_n rfl rfl ?_
    refine E_getfield (v := .ref 76) rfl rfl rfl (by decide) rfl ?_
    refine E_iload_n rfl rfl ?_
    refine E_iaload (x := 0) (j := 3) rfl rfl (by decide) (by decide) rfl ?_
    refine E_iconst (x := 1) rfl (by decide) ?_
    refine E_ic (t := 41) (b := true) rfl rfl (by decide) ?_
    refine E_aload_n rfl rfl ?_
    refine E_getfield (v := .ref 76) rfl rfl rfl (by decide) rfl ?_
    refine E_iload_n rfl rfl ?_
    refine E_iaload (x := 0) (j := 3) rfl rfl (by decide) (by decide) rfl ?_
    refine E_if (t := 57) (b := false) rfl rfl (by decide) ?_
    refine E_aload_n rfl rfl ?_
    refine E_bipush (x := (-3)) rfl (by decide) ?_
    refine E_callV (v := some (.int (-3))) (As := [.ref 65, .int (-3)]) (r0 := []) (cs2 := ((w0.set 48 (.inl [0, 0, 0, 1, 0, 0, 0, 0])).set 66 (.inl [0, 0, 0, 1, 0, 0, 0, 0]))) rfl rfl rfl (Nat.le_of_ble_eq_true rfl) rfl rfl c35_X6_no (by decide) (by simp only [List.length_set]) ?_
    exact E_iret rfl rfl, (by simp only [List.length_set]; rfl), (by simp only [List.length_set]; rfl), ((ab_szs rfl).trans ((ab_szs rfl).trans rfl)), fun _ => rfl⟩
theorem f_says_7 (a2 : Int32) (ha2l : (0 : Int) ≤ a2.toInt) (ha2h : a2.toInt ≤ 6) : p1_P 3 82 2 141 [.ref 0, .int 4, .int a2] [.ref 65, .int 4, .int a2] :=
  ⟨(-3), (w0.set 48 (.inl [0, 0, 0, 1, 0, 0, 0, 0])), ((w0.set 48 (.inl [0, 0, 0, 1, 0, 0, 0, 0])).set 66 (.inl [0, 0, 0, 1, 0, 0, 0, 0])), by
    refine Ef.in (md := mX5_says) (L := [some (.ref 0), some (.int 4), some (.int a2), none, none]) rfl (Nat.le_of_ble_eq_true rfl) rfl ?_
    refine E_iload_n rfl rfl ?_
    refine E_callS (v := some (.int 1)) (As := [.int 4]) (r0 := []) (cs2 := w0) rfl rfl rfl (Nat.le_of_ble_eq_true rfl) rfl c18_X5_isShelf (by decide) rfl ?_
    refine E_if (t := 14) (b := false) rfl rfl (by decide) ?_
    refine E_iload_n rfl rfl ?_
    have e5 : Ev ab_Z0 1 46 [.int a2] w0 (some (.int 1), w0) := by
      refine Ef.in (md := mX4_isKind) (L := [some (.int a2)]) rfl (Nat.le_of_ble_eq_true rfl) rfl ?_
      refine E_iload_n rfl rfl ?_
      refine E_if (t := 14) (b := false) rfl rfl ((cn_lt (rfl : (a2).toInt = (a2).toInt) (by decide : (0 : Int32).toInt = 0)).trans (decide_eq_false (by omega))) ?_
      refine E_iload_n rfl rfl ?_
      refine E_bipush (x := 7) rfl (by decide) ?_
      refine E_ic (t := 14) (b := false) rfl rfl ((cn_ge (rfl : (a2).toInt = (a2).toInt) (by decide : (7 : Int32).toInt = 7)).trans (decide_eq_false (by omega))) ?_
      refine E_iconst (x := 1) rfl (by decide) ?_
      refine E_goto (t := 15) rfl rfl ?_
      exact E_iret rfl rfl
    refine E_callS (v := some (.int 1)) (As := [.int a2]) (r0 := []) (cs2 := w0) rfl rfl rfl (Nat.le_of_ble_eq_true rfl) rfl e5 (by decide) rfl ?_
    refine E_if (t := 20) (b := true) rfl rfl (by decide) ?_
    refine E_aload_n rfl rfl ?_
    refine E_getfield (v := .ref 31) rfl rfl rfl (by decide) rfl ?_
    refine E_iload_n rfl rfl ?_
    refine E_aaload (b := 57) (j := 4) rfl rfl (by decide) (by decide) rfl ?_
    refine E_astore_n (L2 := [some (.ref 0), some (.int 4), some (.int a2), some (.ref 57), none]) rfl rfl ?_
    refine E_aload_n rfl rfl ?_
    refine E_callV (v := some (.int 1)) (As := [.ref 57]) (r0 := []) (cs2 := w0) rfl rfl rfl (Nat.le_of_ble_eq_true rfl) rfl rfl c50_X3_isEmpty (by decide) rfl ?_
    refine E_if (t := 40) (b := false) rfl rfl (by decide) ?_
    refine E_aload_n rfl rfl ?_
    refine E_iconst (x := 3) rfl (by decide) ?_
    refine E_callV (v := some (.int (-3))) (As := [.ref 0, .int 3]) (r0 := []) (cs2 := (w0.set 48 (.inl [0, 0, 0, 1, 0, 0, 0, 0]))) rfl rfl rfl (Nat.le_of_ble_eq_true rfl) rfl rfl c32_X5_refuse (by decide) (by simp only [List.length_set]) ?_
    exact E_iret rfl rfl, by
    refine Ef.in (md := mX6_says) (L := [some (.ref 65), some (.int 4), some (.int a2), none, none, none]) rfl (Nat.le_of_ble_eq_true rfl) rfl ?_
    refine E_aload_n rfl rfl ?_
    refine E_iload_n rfl rfl ?_
    refine E_callV (v := some (.int 1)) (As := [.ref 65, .int 4]) (r0 := []) (cs2 := (w0.set 48 (.inl [0, 0, 0, 1, 0, 0, 0, 0]))) rfl rfl rfl (Nat.le_of_ble_eq_true rfl) rfl rfl c51_X6_isShelf (by decide) rfl ?_
    refine E_if (t := 18) (b := false) rfl rfl (by decide) ?_
    refine E_iload_n rfl rfl ?_
    refine E_if (t := 18) (b := false) rfl rfl ((cn_lt (rfl : (a2).toInt = (a2).toInt) (by decide : (0 : Int32).toInt = 0)).trans (decide_eq_false (by omega))) ?_
    refine E_iload_n rfl rfl ?_
    refine E_bipush (x := 6) rfl (by decide) ?_
    refine E_ic (t := 24) (b := true) rfl rfl ((cn_le (rfl : (a2).toInt = (a2).toInt) (by decide : (6 : Int32).toInt = 6)).trans (decide_eq_true (by omega))) ?_
    refine E_aload_n rfl rfl ?_
    refine E_getfield (v := .ref 76) rfl rfl rfl (by decide) rfl ?_
    refine E_iload_n rfl rfl ?_
    refine E_iaload (x := 0) (j := 4) rfl rfl (by decide) (by decide) rfl ?_
    refine E_iconst (x := 1) rfl (by decide) ?_
    refine E_ic (t := 41) (b := true) rfl rfl (by decide) ?_
    refine E_aload_n rfl rfl ?_
    refine E_getfield (v := .ref 76) rfl rfl rfl (by decide) rfl ?_
    refine E_iload_n rfl rfl ?_
    refine E_iaload (x := 0) (j := 4) rfl rfl (by decide) (by decide) rfl ?_
    refine E_if (t := 57) (b := false) rfl rfl (by decide) ?_
    refine E_aload_n rfl rfl ?_
    refine E_bipush (x := (-3)) rfl (by decide) ?_
    refine E_callV (v := some (.int (-3))) (As := [.ref 65, .int (-3)]) (r0 := []) (cs2 := ((w0.set 48 (.inl [0, 0, 0, 1, 0, 0, 0, 0])).set 66 (.inl [0, 0, 0, 1, 0, 0, 0, 0]))) rfl rfl rfl (Nat.le_of_ble_eq_true rfl) rfl rfl c35_X6_no (by decide) (by simp only [List.length_set]) ?_
    exact E_iret rfl rfl, (by simp only [List.length_set]; rfl), (by simp only [List.length_set]; rfl), ((ab_szs rfl).trans ((ab_szs rfl).trans rfl)), fun _ => rfl⟩
theorem f_says_8 (a2 : Int32) (ha2l : (0 : Int) ≤ a2.toInt) (ha2h : a2.toInt ≤ 6) : p1_P 3 82 2 141 [.ref 0, .int 5, .int a2] [.ref 65, .int 5, .int a2] :=
  ⟨(-3), (w0.set 48 (.inl [0, 0, 0, 1, 0, 0, 0, 0])), ((w0.set 48 (.inl [0, 0, 0, 1, 0, 0, 0, 0])).set 66 (.inl [0, 0, 0, 1, 0, 0, 0, 0])), by
    refine Ef.in (md := mX5_says) (L := [some (.ref 0), some (.int 5), some (.int a2), none, none]) rfl (Nat.le_of_ble_eq_true rfl) rfl ?_
    refine E_iload_n rfl rfl ?_
    refine E_callS (v := some (.int 1)) (As := [.int 5]) (r0 := []) (cs2 := w0) rfl rfl rfl (Nat.le_of_ble_eq_true rfl) rfl c20_X5_isShelf (by decide) rfl ?_
    refine E_if (t := 14) (b := false) rfl rfl (by decide) ?_
    refine E_iload_n rfl rfl ?_
    have e5 : Ev ab_Z0 1 46 [.int a2] w0 (some (.int 1), w0) := by
      refine Ef.in (md := mX4_isKind) (L := [some (.int a2)]) rfl (Nat.le_of_ble_eq_true rfl) rfl ?_
      refine E_iload_n rfl rfl ?_
      refine E_if (t := 14) (b := false) rfl rfl ((cn_lt (rfl : (a2).toInt = (a2).toInt) (by decide : (0 : Int32).toInt = 0)).trans (decide_eq_false (by omega))) ?_
      refine E_iload_n rfl rfl ?_
      refine E_bipush (x := 7) rfl (by decide) ?_
      refine E_ic (t := 14) (b := false) rfl rfl ((cn_ge (rfl : (a2).toInt = (a2).toInt) (by decide : (7 : Int32).toInt = 7)).trans (decide_eq_false (by omega))) ?_
      refine E_iconst (x := 1) rfl (by decide) ?_
      refine E_goto (t := 15) rfl rfl ?_
      exact E_iret rfl rfl
    refine E_callS (v := some (.int 1)) (As := [.int a2]) (r0 := []) (cs2 := w0) rfl rfl rfl (Nat.le_of_ble_eq_true rfl) rfl e5 (by decide) rfl ?_
    refine E_if (t := 20) (b := true) rfl rfl (by decide) ?_
    refine E_aload_n rfl rfl ?_
    refine E_getfield (v := .ref 31) rfl rfl rfl (by decide) rfl ?_
    refine E_iload_n rfl rfl ?_
    refine E_aaload (b := 59) (j := 5) rfl rfl (by decide) (by decide) rfl ?_
    refine E_astore_n (L2 := [some (.ref 0), some (.int 5), some (.int a2), some (.ref 59), none]) rfl rfl ?_
    refine E_aload_n rfl rfl ?_
    refine E_callV (v := some (.int 1)) (As := [.ref 59]) (r0 := []) (cs2 := w0) rfl rfl rfl (Nat.le_of_ble_eq_true rfl) rfl rfl c54_X3_isEmpty (by decide) rfl ?_
    refine E_if (t := 40) (b := false) rfl rfl (by decide) ?_
    refine E_aload_n rfl rfl ?_
    refine E_iconst (x := 3) rfl (by decide) ?_
    refine E_callV (v := some (.int (-3))) (As := [.ref 0, .int 3]) (r0 := []) (cs2 := (w0.set 48 (.inl [0, 0, 0, 1, 0, 0, 0, 0]))) rfl rfl rfl (Nat.le_of_ble_eq_true rfl) rfl rfl c32_X5_refuse (by decide) (by simp only [List.length_set]) ?_
    exact E_iret rfl rfl, by
    refine Ef.in (md := mX6_says) (L := [some (.ref 65), some (.int 5), some (.int a2), none, none, none]) rfl (Nat.le_of_ble_eq_true rfl) rfl ?_
    refine E_aload_n rfl rfl ?_
    refine E_iload_n rfl rfl ?_
    refine E_callV (v := some (.int 1)) (As := [.ref 65, .int 5]) (r0 := []) (cs2 := (w0.set 48 (.inl [0, 0, 0, 1, 0, 0, 0, 0]))) rfl rfl rfl (Nat.le_of_ble_eq_true rfl) rfl rfl c55_X6_isShelf (by decide) rfl ?_
    refine E_if (t := 18) (b := false) rfl rfl (by decide) ?_
    refine E_iload_n rfl rfl ?_
    refine E_if (t := 18) (b := false) rfl rfl ((cn_lt (rfl : (a2).toInt = (a2).toInt) (by decide : (0 : Int32).toInt = 0)).trans (decide_eq_false (by omega))) ?_
    refine E_iload_n rfl rfl ?_
    refine E_bipush (x := 6) rfl (by decide) ?_
    refine E_ic (t := 24) (b := true) rfl rfl ((cn_le (rfl : (a2).toInt = (a2).toInt) (by decide : (6 : Int32).toInt = 6)).trans (decide_eq_true (by omega))) ?_
    refine E_aload_n rfl rfl ?_
    refine E_getfield (v := .ref 76) rfl rfl rfl (by decide) rfl ?_
    refine E_iload_n rfl rfl ?_
    refine E_iaload (x := 0) (j := 5) rfl rfl (by decide) (by decide) rfl ?_
    refine E_iconst (x := 1) rfl (by decide) ?_
    refine E_ic (t := 41) (b := true) rfl rfl (by decide) ?_
    refine E_aload_n rfl rfl ?_
    refine E_getfield (v := .ref 76) rfl rfl rfl (by decide) rfl ?_
    refine E_iload_n rfl rfl ?_
    refine E_iaload (x := 0) (j := 5) rfl rfl (by decide) (by decide) rfl ?_
    refine E_if (t := 57) (b := false) rfl rfl (by decide) ?_
    refine E_aload_n rfl rfl ?_
    refine E_bipush (x := (-3)) rfl (by decide) ?_
    refine E_callV (v := some (.int (-3))) (As := [.ref 65, .int (-3)]) (r0 := []) (cs2 := ((w0.set 48 (.inl [0, 0, 0, 1, 0, 0, 0, 0])).set 66 (.inl [0, 0, 0, 1, 0, 0, 0, 0]))) rfl rfl rfl (Nat.le_of_ble_eq_true rfl) rfl rfl c35_X6_no (by decide) (by simp only [List.length_set]) ?_
    exact E_iret rfl rfl, (by simp only [List.length_set]; rfl), (by simp only [List.length_set]; rfl), ((ab_szs rfl).trans ((ab_szs rfl).trans rfl)), fun _ => rfl⟩
theorem f_says_9 (a2 : Int32) (ha2l : (0 : Int) ≤ a2.toInt) (ha2h : a2.toInt ≤ 6) : p1_P 3 82 2 141 [.ref 0, .int 6, .int a2] [.ref 65, .int 6, .int a2] :=
  ⟨(-3), (w0.set 48 (.inl [0, 0, 0, 1, 0, 0, 0, 0])), ((w0.set 48 (.inl [0, 0, 0, 1, 0, 0, 0, 0])).set 66 (.inl [0, 0, 0, 1, 0, 0, 0, 0])), by
    refine Ef.in (md := mX5_says) (L := [some (.ref 0), some (.int 6), some (.int a2), none, none]) rfl (Nat.le_of_ble_eq_true rfl) rfl ?_
    refine E_iload_n rfl rfl ?_
    refine E_callS (v := some (.int 1)) (As := [.int 6]) (r0 := []) (cs2 := w0) rfl rfl rfl (Nat.le_of_ble_eq_true rfl) rfl c22_X5_isShelf (by decide) rfl ?_
    refine E_if (t := 14) (b := false) rfl rfl (by decide) ?_
    refine E_iload_n rfl rfl ?_
    have e5 : Ev ab_Z0 1 46 [.int a2] w0 (some (.int 1), w0) := by
      refine Ef.in (md := mX4_isKind) (L := [some (.int a2)]) rfl (Nat.le_of_ble_eq_true rfl) rfl ?_
      refine E_iload_n rfl rfl ?_
      refine E_if (t := 14) (b := false) rfl rfl ((cn_lt (rfl : (a2).toInt = (a2).toInt) (by decide : (0 : Int32).toInt = 0)).trans (decide_eq_false (by omega))) ?_
      refine E_iload_n rfl rfl ?_
      refine E_bipush (x := 7) rfl (by decide) ?_
      refine E_ic (t := 14) (b := false) rfl rfl ((cn_ge (rfl : (a2).toInt = (a2).toInt) (by decide : (7 : Int32).toInt = 7)).trans (decide_eq_false (by omega))) ?_
      refine E_iconst (x := 1) rfl (by decide) ?_
      refine E_goto (t := 15) rfl rfl ?_
      exact E_iret rfl rfl
    refine E_callS (v := some (.int 1)) (As := [.int a2]) (r0 := []) (cs2 := w0) rfl rfl rfl (Nat.le_of_ble_eq_true rfl) rfl e5 (by decide) rfl ?_
    refine E_if (t := 20) (b := true) rfl rfl (by decide) ?_
    refine E_aload_n rfl rfl ?_
    refine E_getfield (v := .ref 31) rfl rfl rfl (by decide) rfl ?_
    refine E_iload_n rfl rfl ?_
    refine E_aaload (b := 61) (j := 6) rfl rfl (by decide) (by decide) rfl ?_
    refine E_astore_n (L2 := [some (.ref 0), some (.int 6), some (.int a2), some (.ref 61), none]) rfl rfl ?_
    refine E_aload_n rfl rfl ?_
    refine E_callV (v := some (.int 1)) (As := [.ref 61]) (r0 := []) (cs2 := w0) rfl rfl rfl (Nat.le_of_ble_eq_true rfl) rfl rfl c58_X3_isEmpty (by decide) rfl ?_
    refine E_if (t := 40) (b := false) rfl rfl (by decide) ?_
    refine E_aload_n rfl rfl ?_
    refine E_iconst (x := 3) rfl (by decide) ?_
    refine E_callV (v := some (.int (-3))) (As := [.ref 0, .int 3]) (r0 := []) (cs2 := (w0.set 48 (.inl [0, 0, 0, 1, 0, 0, 0, 0]))) rfl rfl rfl (Nat.le_of_ble_eq_true rfl) rfl rfl c32_X5_refuse (by decide) (by simp only [List.length_set]) ?_
    exact E_iret rfl rfl, by
    refine Ef.in (md := mX6_says) (L := [some (.ref 65), some (.int 6), some (.int a2), none, none, none]) rfl (Nat.le_of_ble_eq_true rfl) rfl ?_
    refine E_aload_n rfl rfl ?_
    refine E_iload_n rfl rfl ?_
    refine E_callV (v := some (.int 1)) (As := [.ref 65, .int 6]) (r0 := []) (cs2 := (w0.set 48 (.inl [0, 0, 0, 1, 0, 0, 0, 0]))) rfl rfl rfl (Nat.le_of_ble_eq_true rfl) rfl rfl c59_X6_isShelf (by decide) rfl ?_
    refine E_if (t := 18) (b := false) rfl rfl (by decide) ?_
    refine E_iload_n rfl rfl ?_
    refine E_if (t := 18) (b := false) rfl rfl ((cn_lt (rfl : (a2).toInt = (a2).toInt) (by decide : (0 : Int32).toInt = 0)).trans (decide_eq_false (by omega))) ?_
    refine E_iload_n rfl rfl ?_
    refine E_bipush (x := 6) rfl (by decide) ?_
    refine E_ic (t := 24) (b := true) rfl rfl ((cn_le (rfl : (a2).toInt = (a2).toInt) (by decide : (6 : Int32).toInt = 6)).trans (decide_eq_true (by omega))) ?_
    refine E_aload_n rfl rfl ?_
    refine E_getfield (v := .ref 76) rfl rfl rfl (by decide) rfl ?_
    refine E_iload_n rfl rfl ?_
    refine E_iaload (x := 0) (j := 6) rfl rfl (by decide) (by decide) rfl ?_
    refine E_iconst (x := 1) rfl (by decide) ?_
    refine E_ic (t := 41) (b := true) rfl rfl (by decide) ?_
    refine E_aload_n rfl rfl ?_
    refine E_getfield (v := .ref 76) rfl rfl rfl (by decide) rfl ?_
    refine E_iload_n rfl rfl ?_
    refine E_iaload (x := 0) (j := 6) rfl rfl (by decide) (by decide) rfl ?_
    refine E_if (t := 57) (b := false) rfl rfl (by decide) ?_
    refine E_aload_n rfl rfl ?_
    refine E_bipush (x := (-3)) rfl (by decide) ?_
    refine E_callV (v := some (.int (-3))) (As := [.ref 65, .int (-3)]) (r0 := []) (cs2 := ((w0.set 48 (.inl [0, 0, 0, 1, 0, 0, 0, 0])).set 66 (.inl [0, 0, 0, 1, 0, 0, 0, 0]))) rfl rfl rfl (Nat.le_of_ble_eq_true rfl) rfl rfl c35_X6_no (by decide) (by simp only [List.length_set]) ?_
    exact E_iret rfl rfl, (by simp only [List.length_set]; rfl), (by simp only [List.length_set]; rfl), ((ab_szs rfl).trans ((ab_szs rfl).trans rfl)), fun _ => rfl⟩
theorem f_says_10 (a2 : Int32) (ha2l : (0 : Int) ≤ a2.toInt) (ha2h : a2.toInt ≤ 6) : p1_P 3 82 2 141 [.ref 0, .int 7, .int a2] [.ref 65, .int 7, .int a2] :=
  ⟨(-3), (w0.set 48 (.inl [0, 0, 0, 1, 0, 0, 0, 0])), ((w0.set 48 (.inl [0, 0, 0, 1, 0, 0, 0, 0])).set 66 (.inl [0, 0, 0, 1, 0, 0, 0, 0])), by
    refine Ef.in (md := mX5_says) (L := [some (.ref 0), some (.int 7), some (.int a2), none, none]) rfl (Nat.le_of_ble_eq_true rfl) rfl ?_
    refine E_iload_n rfl rfl ?_
    refine E_callS (v := some (.int 1)) (As := [.int 7]) (r0 := []) (cs2 := w0) rfl rfl rfl (Nat.le_of_ble_eq_true rfl) rfl c24_X5_isShelf (by decide) rfl ?_
    refine E_if (t := 14) (b := false) rfl rfl (by decide) ?_
    refine E_iload_n rfl rfl ?_
    have e5 : Ev ab_Z0 1 46 [.int a2] w0 (some (.int 1), w0) := by
      refine Ef.in (md := mX4_isKind) (L := [some (.int a2)]) rfl (Nat.le_of_ble_eq_true rfl) rfl ?_
      refine E_iload_n rfl rfl ?_
      refine E_if (t := 14) (b := false) rfl rfl ((cn_lt (rfl : (a2).toInt = (a2).toInt) (by decide : (0 : Int32).toInt = 0)).trans (decide_eq_false (by omega))) ?_
      refine E_iload_n rfl rfl ?_
      refine E_bipush (x := 7) rfl (by decide) ?_
      refine E_ic (t := 14) (b := false) rfl rfl ((cn_ge (rfl : (a2).toInt = (a2).toInt) (by decide : (7 : Int32).toInt = 7)).trans (decide_eq_false (by omega))) ?_
      refine E_iconst (x := 1) rfl (by decide) ?_
      refine E_goto (t := 15) rfl rfl ?_
      exact E_iret rfl rfl
    refine E_callS (v := some (.int 1)) (As := [.int a2]) (r0 := []) (cs2 := w0) rfl rfl rfl (Nat.le_of_ble_eq_true rfl) rfl e5 (by decide) rfl ?_
    refine E_if (t := 20) (b := true) rfl rfl (by decide) ?_
    refine E_aload_n rfl rfl ?_
    refine E_getfield (v := .ref 31) rfl rfl rfl (by decide) rfl ?_
    refine E_iload_n rfl rfl ?_
    refine E_aaload (b := 63) (j := 7) rfl rfl (by decide) (by decide) rfl ?_
    refine E_astore_n (L2 := [some (.ref 0), some (.int 7), some (.int a2), some (.ref 63), none]) rfl rfl ?_
    refine E_aload_n rfl rfl ?_
    refine E_callV (v := some (.int 1)) (As := [.ref 63]) (r0 := []) (cs2 := w0) rfl rfl rfl (Nat.le_of_ble_eq_true rfl) rfl rfl c62_X3_isEmpty (by decide) rfl ?_
    refine E_if (t := 40) (b := false) rfl rfl (by decide) ?_
    refine E_aload_n rfl rfl ?_
    refine E_iconst (x := 3) rfl (by decide) ?_
    refine E_callV (v := some (.int (-3))) (As := [.ref 0, .int 3]) (r0 := []) (cs2 := (w0.set 48 (.inl [0, 0, 0, 1, 0, 0, 0, 0]))) rfl rfl rfl (Nat.le_of_ble_eq_true rfl) rfl rfl c32_X5_refuse (by decide) (by simp only [List.length_set]) ?_
    exact E_iret rfl rfl, by
    refine Ef.in (md := mX6_says) (L := [some (.ref 65), some (.int 7), some (.int a2), none, none, none]) rfl (Nat.le_of_ble_eq_true rfl) rfl ?_
    refine E_aload_n rfl rfl ?_
    refine E_iload_n rfl rfl ?_
    refine E_callV (v := some (.int 1)) (As := [.ref 65, .int 7]) (r0 := []) (cs2 := (w0.set 48 (.inl [0, 0, 0, 1, 0, 0, 0, 0]))) rfl rfl rfl (Nat.le_of_ble_eq_true rfl) rfl rfl c63_X6_isShelf (by decide) rfl ?_
    refine E_if (t := 18) (b := false) rfl rfl (by decide) ?_
    refine E_iload_n rfl rfl ?_
    refine E_if (t := 18) (b := false) rfl rfl ((cn_lt (rfl : (a2).toInt = (a2).toInt) (by decide : (0 : Int32).toInt = 0)).trans (decide_eq_false (by omega))) ?_
    refine E_iload_n rfl rfl ?_
    refine E_bipush (x := 6) rfl (by decide) ?_
    refine E_ic (t := 24) (b := true) rfl rfl ((cn_le (rfl : (a2).toInt = (a2).toInt) (by decide : (6 : Int32).toInt = 6)).trans (decide_eq_true (by omega))) ?_
    refine E_aload_n rfl rfl ?_
    refine E_getfield (v := .ref 76) rfl rfl rfl (by decide) rfl ?_
    refine E_iload_n rfl rfl ?_
    refine E_iaload (x := 0) (j := 7) rfl rfl (by decide) (by decide) rfl ?_
    refine E_iconst (x := 1) rfl (by decide) ?_
    refine E_ic (t := 41) (b := true) rfl rfl (by decide) ?_
    refine E_aload_n rfl rfl ?_
    refine E_getfield (v := .ref 76) rfl rfl rfl (by decide) rfl ?_
    refine E_iload_n rfl rfl ?_
    refine E_iaload (x := 0) (j := 7) rfl rfl (by decide) (by decide) rfl ?_
    refine E_if (t := 57) (b := false) rfl rfl (by decide) ?_
    refine E_aload_n rfl rfl ?_
    refine E_bipush (x := (-3)) rfl (by decide) ?_
    refine E_callV (v := some (.int (-3))) (As := [.ref 65, .int (-3)]) (r0 := []) (cs2 := ((w0.set 48 (.inl [0, 0, 0, 1, 0, 0, 0, 0])).set 66 (.inl [0, 0, 0, 1, 0, 0, 0, 0]))) rfl rfl rfl (Nat.le_of_ble_eq_true rfl) rfl rfl c35_X6_no (by decide) (by simp only [List.length_set]) ?_
    exact E_iret rfl rfl, (by simp only [List.length_set]; rfl), (by simp only [List.length_set]; rfl), ((ab_szs rfl).trans ((ab_szs rfl).trans rfl)), fun _ => rfl⟩
theorem f_says_11 (a1 a2 : Int32) (ha1l : (0 : Int) ≤ a1.toInt) (ha1h : a1.toInt ≤ 7) (ha2l : (7 : Int) ≤ a2.toInt) : p1_P 3 82 2 141 [.ref 0, .int a1, .int a2] [.ref 65, .int a1, .int a2] :=
  ⟨(-1), (w0.set 48 (.inl [0, 1, 0, 0, 0, 0, 0, 0])), ((w0.set 48 (.inl [0, 1, 0, 0, 0, 0, 0, 0])).set 66 (.inl [0, 1, 0, 0, 0, 0, 0, 0])), by
    refine Ef.in (md := mX5_says) (L := [some (.ref 0), some (.int a1), some (.int a2), none, none]) rfl (Nat.le_of_ble_eq_true rfl) rfl ?_
    refine E_iload_n rfl rfl ?_
    have e2 : Ev ab_Z0 1 117 [.int a1] w0 (some (.int 1), w0) := by
      refine Ef.in (md := mX5_isShelf) (L := [some (.int a1)]) rfl (Nat.le_of_ble_eq_true rfl) rfl ?_
      refine E_iload_n rfl rfl ?_
      refine E_if (t := 14) (b := false) rfl rfl ((cn_lt (rfl : (a1).toInt = (a1).toInt) (by decide : (0 : Int32).toInt = 0)).trans (decide_eq_false (by omega))) ?_
      refine E_iload_n rfl rfl ?_
      refine E_bipush (x := 8) rfl (by decide) ?_
      refine E_ic (t := 14) (b := false) rfl rfl ((cn_ge (rfl : (a1).toInt = (a1).toInt) (by decide : (8 : Int32).toInt = 8)).trans (decide_eq_false (by omega))) ?_
      refine E_iconst (x := 1) rfl (by decide) ?_
      refine E_goto (t := 15) rfl rfl ?_
      exact E_iret rfl rfl
    refine E_callS (v := some (.int 1)) (As := [.int a1]) (r0 := []) (cs2 := w0) rfl rfl rfl (Nat.le_of_ble_eq_true rfl) rfl e2 (by decide) rfl ?_
    refine E_if (t := 14) (b := false) rfl rfl (by decide) ?_
    refine E_iload_n rfl rfl ?_
    have e15 : Ev ab_Z0 1 46 [.int a2] w0 (some (.int 0), w0) := by
      refine Ef.in (md := mX4_isKind) (L := [some (.int a2)]) rfl (Nat.le_of_ble_eq_true rfl) rfl ?_
      refine E_iload_n rfl rfl ?_
      refine E_if (t := 14) (b := false) rfl rfl ((cn_lt (rfl : (a2).toInt = (a2).toInt) (by decide : (0 : Int32).toInt = 0)).trans (decide_eq_false (by omega))) ?_
      refine E_iload_n rfl rfl ?_
      refine E_bipush (x := 7) rfl (by decide) ?_
      refine E_ic (t := 14) (b := true) rfl rfl ((cn_ge (rfl : (a2).toInt = (a2).toInt) (by decide : (7 : Int32).toInt = 7)).trans (decide_eq_true (by omega))) ?_
      refine E_iconst (x := 0) rfl (by decide) ?_
      exact E_iret rfl rfl
    refine E_callS (v := some (.int 0)) (As := [.int a2]) (r0 := []) (cs2 := w0) rfl rfl rfl (Nat.le_of_ble_eq_true rfl) rfl e15 (by decide) rfl ?_
    refine E_if (t := 20) (b := false) rfl rfl (by decide) ?_
    refine E_aload_n rfl rfl ?_
    refine E_iconst (x := 1) rfl (by decide) ?_
    refine E_callV (v := some (.int (-1))) (As := [.ref 0, .int 1]) (r0 := []) (cs2 := (w0.set 48 (.inl [0, 1, 0, 0, 0, 0, 0, 0]))) rfl rfl rfl (Nat.le_of_ble_eq_true rfl) rfl rfl c1_X5_refuse (by decide) (by simp only [List.length_set]) ?_
    exact E_iret rfl rfl, by
    refine Ef.in (md := mX6_says) (L := [some (.ref 65), some (.int a1), some (.int a2), none, none, none]) rfl (Nat.le_of_ble_eq_true rfl) rfl ?_
    refine E_aload_n rfl rfl ?_
    refine E_iload_n rfl rfl ?_
    have e3 : Ev ab_Z0 1 131 [.ref 65, .int a1] (w0.set 48 (.inl [0, 1, 0, 0, 0, 0, 0, 0])) (some (.int 1), (w0.set 48 (.inl [0, 1, 0, 0, 0, 0, 0, 0]))) := by
      refine Ef.in (md := mX6_isShelf) (L := [some (.ref 65), some (.int a1)]) rfl (Nat.le_of_ble_eq_true rfl) rfl ?_
      refine E_iload_n rfl rfl ?_
      refine E_if (t := 14) (b := false) rfl rfl ((cn_lt (rfl : (a1).toInt = (a1).toInt) (by decide : (0 : Int32).toInt = 0)).trans (decide_eq_false (by omega))) ?_
      refine E_iload_n rfl rfl ?_
      refine E_bipush (x := 8) rfl (by decide) ?_
      refine E_ic (t := 14) (b := false) rfl rfl ((cn_ge (rfl : (a1).toInt = (a1).toInt) (by decide : (8 : Int32).toInt = 8)).trans (decide_eq_false (by omega))) ?_
      refine E_iconst (x := 1) rfl (by decide) ?_
      refine E_goto (t := 15) rfl rfl ?_
      exact E_iret rfl rfl
    refine E_callV (v := some (.int 1)) (As := [.ref 65, .int a1]) (r0 := []) (cs2 := (w0.set 48 (.inl [0, 1, 0, 0, 0, 0, 0, 0]))) rfl rfl rfl (Nat.le_of_ble_eq_true rfl) rfl rfl e3 (by decide) rfl ?_
    refine E_if (t := 18) (b := false) rfl rfl (by decide) ?_
    refine E_iload_n rfl rfl ?_
    refine E_if (t := 18) (b := false) rfl rfl ((cn_lt (rfl : (a2).toInt = (a2).toInt) (by decide : (0 : Int32).toInt = 0)).trans (decide_eq_false (by omega))) ?_
    refine E_iload_n rfl rfl ?_
    refine E_bipush (x := 6) rfl (by decide) ?_
    refine E_ic (t := 24) (b := false) rfl rfl ((cn_le (rfl : (a2).toInt = (a2).toInt) (by decide : (6 : Int32).toInt = 6)).trans (decide_eq_false (by omega))) ?_
    refine E_aload_n rfl rfl ?_
    refine E_iconst (x := (-1)) rfl (by decide) ?_
    refine E_callV (v := some (.int (-1))) (As := [.ref 65, .int (-1)]) (r0 := []) (cs2 := ((w0.set 48 (.inl [0, 1, 0, 0, 0, 0, 0, 0])).set 66 (.inl [0, 1, 0, 0, 0, 0, 0, 0]))) rfl rfl rfl (Nat.le_of_ble_eq_true rfl) rfl rfl c3_X6_no (by decide) (by simp only [List.length_set]) ?_
    exact E_iret rfl rfl, (by simp only [List.length_set]; rfl), (by simp only [List.length_set]; rfl), ((ab_szs rfl).trans ((ab_szs rfl).trans rfl)), fun _ => rfl⟩
theorem f_says_12 (a1 a2 : Int32) (ha1l : (8 : Int) ≤ a1.toInt) : p1_P 3 82 2 141 [.ref 0, .int a1, .int a2] [.ref 65, .int a1, .int a2] :=
  ⟨(-1), (w0.set 48 (.inl [0, 1, 0, 0, 0, 0, 0, 0])), ((w0.set 48 (.inl [0, 1, 0, 0, 0, 0, 0, 0])).set 66 (.inl [0, 1, 0, 0, 0, 0, 0, 0])), by
    refine Ef.in (md := mX5_says) (L := [some (.ref 0), some (.int a1), some (.int a2), none, none]) rfl (Nat.le_of_ble_eq_true rfl) rfl ?_
    refine E_iload_n rfl rfl ?_
    have e2 : Ev ab_Z0 1 117 [.int a1] w0 (some (.int 0), w0) := by
      refine Ef.in (md := mX5_isShelf) (L := [some (.int a1)]) rfl (Nat.le_of_ble_eq_true rfl) rfl ?_
      refine E_iload_n rfl rfl ?_
      refine E_if (t := 14) (b := false) rfl rfl ((cn_lt (rfl : (a1).toInt = (a1).toInt) (by decide : (0 : Int32).toInt = 0)).trans (decide_eq_false (by omega))) ?_
      refine E_iload_n rfl rfl ?_
      refine E_bipush (x := 8) rfl (by decide) ?_
      refine E_ic (t := 14) (b := true) rfl rfl ((cn_ge (rfl : (a1).toInt = (a1).toInt) (by decide : (8 : Int32).toInt = 8)).trans (decide_eq_true (by omega))) ?_
      refine E_iconst (x := 0) rfl (by decide) ?_
      exact E_iret rfl rfl
    refine E_callS (v := some (.int 0)) (As := [.int a1]) (r0 := []) (cs2 := w0) rfl rfl rfl (Nat.le_of_ble_eq_true rfl) rfl e2 (by decide) rfl ?_
    refine E_if (t := 14) (b := true) rfl rfl (by decide) ?_
    refine E_aload_n rfl rfl ?_
    refine E_iconst (x := 1) rfl (by decide) ?_
    refine E_callV (v := some (.int (-1))) (As := [.ref 0, .int 1]) (r0 := []) (cs2 := (w0.set 48 (.inl [0, 1, 0, 0, 0, 0, 0, 0]))) rfl rfl rfl (Nat.le_of_ble_eq_true rfl) rfl rfl c1_X5_refuse (by decide) (by simp only [List.length_set]) ?_
    exact E_iret rfl rfl, by
    refine Ef.in (md := mX6_says) (L := [some (.ref 65), some (.int a1), some (.int a2), none, none, none]) rfl (Nat.le_of_ble_eq_true rfl) rfl ?_
    refine E_aload_n rfl rfl ?_
    refine E_iload_n rfl rfl ?_
    have e3 : Ev ab_Z0 1 131 [.ref 65, .int a1] (w0.set 48 (.inl [0, 1, 0, 0, 0, 0, 0, 0])) (some (.int 0), (w0.set 48 (.inl [0, 1, 0, 0, 0, 0, 0, 0]))) := by
      refine Ef.in (md := mX6_isShelf) (L := [some (.ref 65), some (.int a1)]) rfl (Nat.le_of_ble_eq_true rfl) rfl ?_
      refine E_iload_n rfl rfl ?_
      refine E_if (t := 14) (b := false) rfl rfl ((cn_lt (rfl : (a1).toInt = (a1).toInt) (by decide : (0 : Int32).toInt = 0)).trans (decide_eq_false (by omega))) ?_
      refine E_iload_n rfl rfl ?_
      refine E_bipush (x := 8) rfl (by decide) ?_
      refine E_ic (t := 14) (b := true) rfl rfl ((cn_ge (rfl : (a1).toInt = (a1).toInt) (by decide : (8 : Int32).toInt = 8)).trans (decide_eq_true (by omega))) ?_
      refine E_iconst (x := 0) rfl (by decide) ?_
      exact E_iret rfl rfl
    refine E_callV (v := some (.int 0)) (As := [.ref 65, .int a1]) (r0 := []) (cs2 := (w0.set 48 (.inl [0, 1, 0, 0, 0, 0, 0, 0]))) rfl rfl rfl (Nat.le_of_ble_eq_true rfl) rfl rfl e3 (by decide) rfl ?_
    refine E_if (t := 18) (b := true) rfl rfl (by decide) ?_
    refine E_aload_n rfl rfl ?_
    refine E_iconst (x := (-1)) rfl (by decide) ?_
    refine E_callV (v := some (.int (-1))) (As := [.ref 65, .int (-1)]) (r0 := []) (cs2 := ((w0.set 48 (.inl [0, 1, 0, 0, 0, 0, 0, 0])).set 66 (.inl [0, 1, 0, 0, 0, 0, 0, 0]))) rfl rfl rfl (Nat.le_of_ble_eq_true rfl) rfl rfl c3_X6_no (by decide) (by simp only [List.length_set]) ?_
    exact E_iret rfl rfl, (by simp only [List.length_set]; rfl), (by simp only [List.length_set]; rfl), ((ab_szs rfl).trans ((ab_szs rfl).trans rfl)), fun _ => rfl⟩
theorem f_says (a1 a2 : Int32) : p1_P 3 82 2 141 [.ref 0, .int a1, .int a2] [.ref 65, .int a1, .int a2] := by
  rcases ab_ltge a1.toInt (0) with h | h
  · exact f_says_1 a1 a2 (by omega)
  rcases ab_ltge a1.toInt (8) with h | h
  · rcases ab_ltge a2.toInt (0) with h | h
    · exact f_says_2 a1 a2 (by omega) (by omega) (by omega)
    rcases ab_ltge a2.toInt (7) with h | h
    · rcases ab_ltge a1.toInt (1) with h | h
      · obtain rfl : a1 = 0 := Int32.toInt_inj.mp (by rw [show ((0 : Int32).toInt = 0) by decide]; omega)
        exact f_says_3 a2 (by omega) (by omega)
      rcases ab_ltge a1.toInt (2) with h | h
      · obtain rfl : a1 = 1 := Int32.toInt_inj.mp (by rw [show ((1 : Int32).toInt = 1) by decide]; omega)
        exact f_says_4 a2 (by omega) (by omega)
      rcases ab_ltge a1.toInt (3) with h | h
      · obtain rfl : a1 = 2 := Int32.toInt_inj.mp (by rw [show ((2 : Int32).toInt = 2) by decide]; omega)
        exact f_says_5 a2 (by omega) (by omega)
      rcases ab_ltge a1.toInt (4) with h | h
      · obtain rfl : a1 = 3 := Int32.toInt_inj.mp (by rw [show ((3 : Int32).toInt = 3) by decide]; omega)
        exact f_says_6 a2 (by omega) (by omega)
      rcases ab_ltge a1.toInt (5) with h | h
      · obtain rfl : a1 = 4 := Int32.toInt_inj.mp (by rw [show ((4 : Int32).toInt = 4) by decide]; omega)
        exact f_says_7 a2 (by omega) (by omega)
      rcases ab_ltge a1.toInt (6) with h | h
      · obtain rfl : a1 = 5 := Int32.toInt_inj.mp (by rw [show ((5 : Int32).toInt = 5) by decide]; omega)
        exact f_says_8 a2 (by omega) (by omega)
      rcases ab_ltge a1.toInt (7) with h | h
      · obtain rfl : a1 = 6 := Int32.toInt_inj.mp (by rw [show ((6 : Int32).toInt = 6) by decide]; omega)
        exact f_says_9 a2 (by omega) (by omega)
      obtain rfl : a1 = 7 := Int32.toInt_inj.mp (by rw [show ((7 : Int32).toInt = 7) by decide]; omega)
      exact f_says_10 a2 (by omega) (by omega)
    exact f_says_11 a1 a2 (by omega) (by omega) (by omega)
  exact f_says_12 a1 a2 (by omega)
