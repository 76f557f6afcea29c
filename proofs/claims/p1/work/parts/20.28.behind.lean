theorem f_behind_1 (a1 a2 a3 : Int32) (ha1h : a1.toInt ≤ -1) (ha3h : a3.toInt ≤ -1) : p1_P 7 104 6 195 [.ref 0, .int a1, .int a2, .int a3] [.ref 65, .int a1, .int a2, .int a3] :=
  ⟨(-1), (w0.set 48 (.inl [0, 1, 0, 0, 0, 0, 0, 0])), ((w0.set 48 (.inl [0, 1, 0, 0, 0, 0, 0, 0])).set 66 (.inl [0, 1, 0, 0, 0, 0, 0, 0])), by
    refine Ef.in (md := mX5_behind) (L := [some (.ref 0), some (.int a1), some (.int a2), some (.int a3), none]) rfl (Nat.le_of_ble_eq_true rfl) rfl ?_
    refine E_aload_n rfl rfl ?_
    refine E_iload_n rfl rfl ?_
    refine E_iload_n rfl rfl ?_
    refine E_bipush (x := 20) rfl (by decide) ?_
    refine E_iload_n rfl rfl ?_
    refine E_iconst (x := 0) rfl (by decide) ?_
    refine E_iconst (x := 2) rfl (by decide) ?_
    have e8 : Ev ab_Z0 1 115 [.int a3, .int 0, .int 2] w0 (some (.int 0), w0) := by
      refine Ef.in (md := mX5_isFrom) (L := [some (.int a3), some (.int 0), some (.int 2)]) rfl (Nat.le_of_ble_eq_true rfl) rfl ?_
      refine E_iload_n rfl rfl ?_
      refine E_iload_n rfl rfl ?_
      refine E_ic (t := 14) (b := true) rfl rfl ((cn_lt (rfl : (a3).toInt = (a3).toInt) (by decide : (0 : Int32).toInt = 0)).trans (decide_eq_true (by omega))) ?_
      refine E_iconst (x := 0) rfl (by decide) ?_
      exact E_iret rfl rfl
    refine E_callS (v := some (.int 0)) (As := [.int a3, .int 0, .int 2]) (r0 := [.int 20, .int a2, .int a1, .ref 0]) (cs2 := w0) rfl rfl rfl (Nat.le_of_ble_eq_true rfl) rfl e8 (by decide) rfl ?_
    refine E_if (t := 18) (b := false) rfl rfl (by decide) ?_
    refine E_iconst (x := 1) rfl (by decide) ?_
    refine E_goto (t := 19) rfl rfl ?_
    have e19 : Ev ab_Z0 3 120 [.ref 0, .int a1, .int a2, .int 20, .int 1] w0 (some (.int 1), w0) := by
      refine Ef.in (md := mX5_whyNoTwos) (L := [some (.ref 0), some (.int a1), some (.int a2), some (.int 20), some (.int 1), none]) rfl (Nat.le_of_ble_eq_true rfl) rfl ?_
      refine E_aload_n rfl rfl ?_
      refine E_iload_n rfl rfl ?_
      have e3 : Ev ab_Z0 2 119 [.ref 0, .int a1] w0 (some (.int 1), w0) := by
        refine Ef.in (md := mX5_whyNoRow) (L := [some (.ref 0), some (.int a1)]) rfl (Nat.le_of_ble_eq_true rfl) rfl ?_
        refine E_iload_n rfl rfl ?_
        have e2 : Ev ab_Z0 1 117 [.int a1] w0 (some (.int 0), w0) := by
          refine Ef.in (md := mX5_isShelf) (L := [some (.int a1)]) rfl (Nat.le_of_ble_eq_true rfl) rfl ?_
          refine E_iload_n rfl rfl ?_
          refine E_if (t := 14) (b := true) rfl rfl ((cn_lt (rfl : (a1).toInt = (a1).toInt) (by decide : (0 : Int32).toInt = 0)).trans (decide_eq_true (by omega))) ?_
          refine E_iconst (x := 0) rfl (by decide) ?_
          exact E_iret rfl rfl
        refine E_callS (v := some (.int 0)) (As := [.int a1]) (r0 := []) (cs2 := w0) rfl rfl rfl (Nat.le_of_ble_eq_true rfl) rfl e2 (by decide) rfl ?_
        refine E_if (t := 9) (b := false) rfl rfl (by decide) ?_
        refine E_iconst (x := 1) rfl (by decide) ?_
        exact E_iret rfl rfl
      refine E_callV (v := some (.int 1)) (As := [.ref 0, .int a1]) (r0 := []) (cs2 := w0) rfl rfl rfl (Nat.le_of_ble_eq_true rfl) rfl rfl e3 (by decide) rfl ?_
      refine E_istore (L2 := [some (.ref 0), some (.int a1), some (.int a2), some (.int 20), some (.int 1), some (.int 1)]) rfl rfl ?_
      refine E_iload rfl rfl ?_
      refine E_if (t := 15) (b := false) rfl rfl (by decide) ?_
      refine E_iload rfl rfl ?_
      exact E_iret rfl rfl
    refine E_callV (v := some (.int 1)) (As := [.ref 0, .int a1, .int a2, .int 20, .int 1]) (r0 := []) (cs2 := w0) rfl rfl rfl (Nat.le_of_ble_eq_true rfl) rfl rfl e19 (by decide) rfl ?_
    refine E_istore (L2 := [some (.ref 0), some (.int a1), some (.int a2), some (.int a3), some (.int 1)]) rfl rfl ?_
    refine E_iload rfl rfl ?_
    refine E_if (t := 48) (b := true) rfl rfl (by decide) ?_
    refine E_iload rfl rfl ?_
    refine E_if (t := 60) (b := false) rfl rfl (by decide) ?_
    refine E_aload_n rfl rfl ?_
    refine E_iload rfl rfl ?_
    refine E_callV (v := some (.int (-1))) (As := [.ref 0, .int 1]) (r0 := []) (cs2 := (w0.set 48 (.inl [0, 1, 0, 0, 0, 0, 0, 0]))) rfl rfl rfl (Nat.le_of_ble_eq_true rfl) rfl rfl c1_X5_refuse (by decide) (by simp only [List.length_set]) ?_
    exact E_iret rfl rfl, by
    refine Ef.in (md := mX6_behind) (L := [some (.ref 65), some (.int a1), some (.int a2), some (.int a3), none, none]) rfl (Nat.le_of_ble_eq_true rfl) rfl ?_
    refine E_aload_n rfl rfl ?_
    refine E_iload_n rfl rfl ?_
    refine E_iload_n rfl rfl ?_
    refine E_bipush (x := 20) rfl (by decide) ?_
    refine E_iload_n rfl rfl ?_
    refine E_if (t := 18) (b := true) rfl rfl ((cn_lt (rfl : (a3).toInt = (a3).toInt) (by decide : (0 : Int32).toInt = 0)).trans (decide_eq_true (by omega))) ?_
    refine E_iconst (x := 0) rfl (by decide) ?_
    have e8 : Ev ab_Z0 3 186 [.ref 65, .int a1, .int a2, .int 20, .int 0] (w0.set 48 (.inl [0, 1, 0, 0, 0, 0, 0, 0])) (some (.int (-1)), (w0.set 48 (.inl [0, 1, 0, 0, 0, 0, 0, 0]))) := by
      refine Ef.in (md := mX6_barsOf) (L := [some (.ref 65), some (.int a1), some (.int a2), some (.int 20), some (.int 0), none]) rfl (Nat.le_of_ble_eq_true rfl) rfl ?_
      refine E_aload_n rfl rfl ?_
      refine E_iload_n rfl rfl ?_
      have e3 : Ev ab_Z0 2 142 [.ref 65, .int a1] (w0.set 48 (.inl [0, 1, 0, 0, 0, 0, 0, 0])) (some (.int (-1)), (w0.set 48 (.inl [0, 1, 0, 0, 0, 0, 0, 0]))) := by
        refine Ef.in (md := mX6_wanted) (L := [some (.ref 65), some (.int a1)]) rfl (Nat.le_of_ble_eq_true rfl) rfl ?_
        refine E_aload_n rfl rfl ?_
        refine E_iload_n rfl rfl ?_
        have e3 : Ev ab_Z0 1 131 [.ref 65, .int a1] (w0.set 48 (.inl [0, 1, 0, 0, 0, 0, 0, 0])) (some (.int 0), (w0.set 48 (.inl [0, 1, 0, 0, 0, 0, 0, 0]))) := by
          refine Ef.in (md := mX6_isShelf) (L := [some (.ref 65), some (.int a1)]) rfl (Nat.le_of_ble_eq_true rfl) rfl ?_
          refine E_iload_n rfl rfl ?_
          refine E_if (t := 14) (b := true) rfl rfl ((cn_lt (rfl : (a1).toInt = (a1).toInt) (by decide : (0 : Int32).toInt = 0)).trans (decide_eq_true (by omega))) ?_
          refine E_iconst (x := 0) rfl (by decide) ?_
          exact E_iret rfl rfl
        refine E_callV (v := some (.int 0)) (As := [.ref 65, .int a1]) (r0 := []) (cs2 := (w0.set 48 (.inl [0, 1, 0, 0, 0, 0, 0, 0]))) rfl rfl rfl (Nat.le_of_ble_eq_true rfl) rfl rfl e3 (by decide) rfl ?_
        refine E_if (t := 12) (b := false) rfl rfl (by decide) ?_
        refine E_iconst (x := (-1)) rfl (by decide) ?_
        refine E_goto (t := 42) rfl rfl ?_
        exact E_iret rfl rfl
      refine E_callV (v := some (.int (-1))) (As := [.ref 65, .int a1]) (r0 := []) (cs2 := (w0.set 48 (.inl [0, 1, 0, 0, 0, 0, 0, 0]))) rfl rfl rfl (Nat.le_of_ble_eq_true rfl) rfl rfl e3 (by decide) rfl ?_
      refine E_istore (L2 := [some (.ref 65), some (.int a1), some (.int a2), some (.int 20), some (.int 0), some (.int (-1))]) rfl rfl ?_
      refine E_iload rfl rfl ?_
      refine E_if (t := 17) (b := false) rfl rfl (by decide) ?_
      refine E_iload rfl rfl ?_
      refine E_goto (t := 59) rfl rfl ?_
      exact E_iret rfl rfl
    refine E_callV (v := some (.int (-1))) (As := [.ref 65, .int a1, .int a2, .int 20, .int 0]) (r0 := []) (cs2 := (w0.set 48 (.inl [0, 1, 0, 0, 0, 0, 0, 0]))) rfl rfl rfl (Nat.le_of_ble_eq_true rfl) rfl rfl e8 (by decide) rfl ?_
    refine E_istore (L2 := [some (.ref 65), some (.int a1), some (.int a2), some (.int a3), some (.int (-1)), none]) rfl rfl ?_
    refine E_iload rfl rfl ?_
    refine E_if (t := 36) (b := false) rfl rfl (by decide) ?_
    refine E_aload_n rfl rfl ?_
    refine E_iload rfl rfl ?_
    refine E_callV (v := some (.int (-1))) (As := [.ref 65, .int (-1)]) (r0 := []) (cs2 := ((w0.set 48 (.inl [0, 1, 0, 0, 0, 0, 0, 0])).set 66 (.inl [0, 1, 0, 0, 0, 0, 0, 0]))) rfl rfl rfl (Nat.le_of_ble_eq_true rfl) rfl rfl c3_X6_no (by decide) (by simp only [List.length_set]) ?_
    exact E_iret rfl rfl, (by simp only [List.length_set]; rfl), (by simp only [List.length_set]; rfl), ((ab_szs rfl).trans ((ab_szs rfl).trans rfl)), fun _ => rfl⟩
theorem f_behind_2 (a2 a3 : Int32) (ha3h : a3.toInt ≤ -1) : p1_P 7 104 6 195 [.ref 0, .int 0, .int a2, .int a3] [.ref 65, .int 0, .int a2, .int a3] :=
  ⟨(-3), (w0.set 48 (.inl [0, 0, 0, 1, 0, 0, 0, 0])), ((w0.set 48 (.inl [0, 0, 0, 1, 0, 0, 0, 0])).set 66 (.inl [0, 0, 0, 1, 0, 0, 0, 0])), by
    refine Ef.in (md := mX5_behind) (L := [some (.ref 0), some (.int 0), some (.int a2), some (.int a3), none]) rfl (Nat.le_of_ble_eq_true rfl) rfl ?_
    refine E_aload_n rfl rfl ?_
    refine E_iload_n rfl rfl ?_
    refine E_iload_n rfl rfl ?_
    refine E_bipush (x := 20) rfl (by decide) ?_
    refine E_iload_n rfl rfl ?_
    refine E_iconst (x := 0) rfl (by decide) ?_
    refine E_iconst (x := 2) rfl (by decide) ?_
    have e8 : Ev ab_Z0 1 115 [.int a3, .int 0, .int 2] w0 (some (.int 0), w0) := by
      refine Ef.in (md := mX5_isFrom) (L := [some (.int a3), some (.int 0), some (.int 2)]) rfl (Nat.le_of_ble_eq_true rfl) rfl ?_
      refine E_iload_n rfl rfl ?_
      refine E_iload_n rfl rfl ?_
      refine E_ic (t := 14) (b := true) rfl rfl ((cn_lt (rfl : (a3).toInt = (a3).toInt) (by decide : (0 : Int32).toInt = 0)).trans (decide_eq_true (by omega))) ?_
      refine E_iconst (x := 0) rfl (by decide) ?_
      exact E_iret rfl rfl
    refine E_callS (v := some (.int 0)) (As := [.int a3, .int 0, .int 2]) (r0 := [.int 20, .int a2, .int 0, .ref 0]) (cs2 := w0) rfl rfl rfl (Nat.le_of_ble_eq_true rfl) rfl e8 (by decide) rfl ?_
    refine E_if (t := 18) (b := false) rfl rfl (by decide) ?_
    refine E_iconst (x := 1) rfl (by decide) ?_
    refine E_goto (t := 19) rfl rfl ?_
    have e19 : Ev ab_Z0 3 120 [.ref 0, .int 0, .int a2, .int 20, .int 1] w0 (some (.int 3), w0) := by
      refine Ef.in (md := mX5_whyNoTwos) (L := [some (.ref 0), some (.int 0), some (.int a2), some (.int 20), some (.int 1), none]) rfl (Nat.le_of_ble_eq_true rfl) rfl ?_
      refine E_aload_n rfl rfl ?_
      refine E_iload_n rfl rfl ?_
      refine E_callV (v := some (.int 3)) (As := [.ref 0, .int 0]) (r0 := []) (cs2 := w0) rfl rfl rfl (Nat.le_of_ble_eq_true rfl) rfl rfl c29_X5_whyNoRow (by decide) rfl ?_
      refine E_istore (L2 := [some (.ref 0), some (.int 0), some (.int a2), some (.int 20), some (.int 1), some (.int 3)]) rfl rfl ?_
      refine E_iload rfl rfl ?_
      refine E_if (t := 15) (b := false) rfl rfl (by decide) ?_
      refine E_iload rfl rfl ?_
      exact E_iret rfl rfl
    refine E_callV (v := some (.int 3)) (As := [.ref 0, .int 0, .int a2, .int 20, .int 1]) (r0 := []) (cs2 := w0) rfl rfl rfl (Nat.le_of_ble_eq_true rfl) rfl rfl e19 (by decide) rfl ?_
    refine E_istore (L2 := [some (.ref 0), some (.int 0), some (.int a2), some (.int a3), some (.int 3)]) rfl rfl ?_
    refine E_iload rfl rfl ?_
    refine E_if (t := 48) (b := true) rfl rfl (by decide) ?_
    refine E_iload rfl rfl ?_
    refine E_if (t := 60) (b := false) rfl rfl (by decide) ?_
    refine E_aload_n rfl rfl ?_
    refine E_iload rfl rfl ?_
    refine E_callV (v := some (.int (-3))) (As := [.ref 0, .int 3]) (r0 := []) (cs2 := (w0.set 48 (.inl [0, 0, 0, 1, 0, 0, 0, 0]))) rfl rfl rfl (Nat.le_of_ble_eq_true rfl) rfl rfl c32_X5_refuse (by decide) (by simp only [List.length_set]) ?_
    exact E_iret rfl rfl, by
    refine Ef.in (md := mX6_behind) (L := [some (.ref 65), some (.int 0), some (.int a2), some (.int a3), none, none]) rfl (Nat.le_of_ble_eq_true rfl) rfl ?_
    refine E_aload_n rfl rfl ?_
    refine E_iload_n rfl rfl ?_
    refine E_iload_n rfl rfl ?_
    refine E_bipush (x := 20) rfl (by decide) ?_
    refine E_iload_n rfl rfl ?_
    refine E_if (t := 18) (b := true) rfl rfl ((cn_lt (rfl : (a3).toInt = (a3).toInt) (by decide : (0 : Int32).toInt = 0)).trans (decide_eq_true (by omega))) ?_
    refine E_iconst (x := 0) rfl (by decide) ?_
    have e8 : Ev ab_Z0 3 186 [.ref 65, .int 0, .int a2, .int 20, .int 0] (w0.set 48 (.inl [0, 0, 0, 1, 0, 0, 0, 0])) (some (.int (-3)), (w0.set 48 (.inl [0, 0, 0, 1, 0, 0, 0, 0]))) := by
      refine Ef.in (md := mX6_barsOf) (L := [some (.ref 65), some (.int 0), some (.int a2), some (.int 20), some (.int 0), none]) rfl (Nat.le_of_ble_eq_true rfl) rfl ?_
      refine E_aload_n rfl rfl ?_
      refine E_iload_n rfl rfl ?_
      refine E_callV (v := some (.int (-3))) (As := [.ref 65, .int 0]) (r0 := []) (cs2 := (w0.set 48 (.inl [0, 0, 0, 1, 0, 0, 0, 0]))) rfl rfl rfl (Nat.le_of_ble_eq_true rfl) rfl rfl c205_X6_wanted (by decide) rfl ?_
      refine E_istore (L2 := [some (.ref 65), some (.int 0), some (.int a2), some (.int 20), some (.int 0), some (.int (-3))]) rfl rfl ?_
      refine E_iload rfl rfl ?_
      refine E_if (t := 17) (b := false) rfl rfl (by decide) ?_
      refine E_iload rfl rfl ?_
      refine E_goto (t := 59) rfl rfl ?_
      exact E_iret rfl rfl
    refine E_callV (v := some (.int (-3))) (As := [.ref 65, .int 0, .int a2, .int 20, .int 0]) (r0 := []) (cs2 := (w0.set 48 (.inl [0, 0, 0, 1, 0, 0, 0, 0]))) rfl rfl rfl (Nat.le_of_ble_eq_true rfl) rfl rfl e8 (by decide) rfl ?_
    refine E_istore (L2 := [some (.ref 65), some (.int 0), some (.int a2), some (.int a3), some (.int (-3)), none]) rfl rfl ?_
    refine E_iload rfl rfl ?_
    refine E_if (t := 36) (b := false) rfl rfl (by decide) ?_
    refine E_aload_n rfl rfl ?_
    refine E_iload rfl rfl ?_
    refine E_callV (v := some (.int (-3))) (As := [.ref 65, .int (-3)]) (r0 := []) (cs2 := ((w0.set 48 (.inl [0, 0, 0, 1, 0, 0, 0, 0])).set 66 (.inl [0, 0, 0, 1, 0, 0, 0, 0]))) rfl rfl rfl (Nat.le_of_ble_eq_true rfl) rfl rfl c35_X6_no (by decide) (by simp only [List.length_set]) ?_
    exact E_iret rfl rfl, (by simp only [List.length_set]; rfl), (by simp only [List.length_set]; rfl), ((ab_szs rfl).trans ((ab_szs rfl).trans rfl)), fun _ => rfl⟩
theorem f_behind_3 (a2 a3 : Int32) (ha3h : a3.toInt ≤ -1) : p1_P 7 104 6 195 [.ref 0, .int 1, .int a2, .int a3] [.ref 65, .int 1, .int a2, .int a3] :=
  ⟨(-3), (w0.set 48 (.inl [0, 0, 0, 1, 0, 0, 0, 0])), ((w0.set 48 (.inl [0, 0, 0, 1, 0, 0, 0, 0])).set 66 (.inl [0, 0, 0, 1, 0, 0, 0, 0])), by
    refine Ef.in (md := mX5_behind) (L := [some (.ref 0), some (.int 1), some (.int a2), some (.int a3), none]) rfl (Nat.le_of_ble_eq_true rfl) rfl ?_
    refine E_aload_n rfl rfl ?_
    refine E_iload_n rfl rfl ?_
    refine E_iload_n rfl rfl ?_
    refine E_bipush (x := 20) rfl (by decide) ?_
    refine E_iload_n rfl rfl ?_
    refine E_iconst (x := 0) rfl (by decide) ?_
    refine E_iconst (x := 2) rfl (by decide) ?_
    have e8 : Ev ab_Z0 1 115 [.int a3, .int 0, .int 2] w0 (some (.int 0), w0) := by
      refine Ef.in (md := mX5_isFrom) (L := [some (.int a3), some (.int 0), some (.int 2)]) rfl (Nat.le_of_ble_eq_true rfl) rfl ?_
      refine E_iload_n rfl rfl ?_
      refine E_iload_n rfl rfl ?_
      refine E_ic (t := 14) (b := true) rfl rfl ((cn_lt (rfl : (a3).toInt = (a3).toInt) (by decide : (0 : Int32).toInt = 0)).trans (decide_eq_true (by omega))) ?_
      refine E_iconst (x := 0) rfl (by decide) ?_
      exact E_iret rfl rfl
    refine E_callS (v := some (.int 0)) (As := [.int a3, .int 0, .int 2]) (r0 := [.int 20, .int a2, .int 1, .ref 0]) (cs2 := w0) rfl rfl rfl (Nat.le_of_ble_eq_true rfl) rfl e8 (by decide) rfl ?_
    refine E_if (t := 18) (b := false) rfl rfl (by decide) ?_
    refine E_iconst (x := 1) rfl (by decide) ?_
    refine E_goto (t := 19) rfl rfl ?_
    have e19 : Ev ab_Z0 3 120 [.ref 0, .int 1, .int a2, .int 20, .int 1] w0 (some (.int 3), w0) := by
      refine Ef.in (md := mX5_whyNoTwos) (L := [some (.ref 0), some (.int 1), some (.int a2), some (.int 20), some (.int 1), none]) rfl (Nat.le_of_ble_eq_true rfl) rfl ?_
      refine E_aload_n rfl rfl ?_
      refine E_iload_n rfl rfl ?_
      refine E_callV (v := some (.int 3)) (As := [.ref 0, .int 1]) (r0 := []) (cs2 := w0) rfl rfl rfl (Nat.le_of_ble_eq_true rfl) rfl rfl c36_X5_whyNoRow (by decide) rfl ?_
      refine E_istore (L2 := [some (.ref 0), some (.int 1), some (.int a2), some (.int 20), some (.int 1), some (.int 3)]) rfl rfl ?_
      refine E_iload rfl rfl ?_
      refine E_if (t := 15) (b := false) rfl rfl (by decide) ?_
      refine E_iload rfl rfl ?_
      exact E_iret rfl rfl
    refine E_callV (v := some (.int 3)) (As := [.ref 0, .int 1, .int a2, .int 20, .int 1]) (r0 := []) (cs2 := w0) rfl rfl rfl (Nat.le_of_ble_eq_true rfl) rfl rfl e19 (by decide) rfl ?_
    refine E_istore (L2 := [some (.ref 0), some (.int 1), some (.int a2), some (.int a3), some (.int 3)]) rfl rfl ?_
    refine E_iload rfl rfl ?_
    refine E_if (t := 48) (b := true) rfl rfl (by decide) ?_
    refine E_iload rfl rfl ?_
    refine E_if (t := 60) (b := false) rfl rfl (by decide) ?_
    refine E_aload_n rfl rfl ?_
    refine E_iload rfl rfl ?_
    refine E_callV (v := some (.int (-3))) (As := [.ref 0, .int 3]) (r0 := []) (cs2 := (w0.set 48 (.inl [0, 0, 0, 1, 0, 0, 0, 0]))) rfl rfl rfl (Nat.le_of_ble_eq_true rfl) rfl rfl c32_X5_refuse (by decide) (by simp only [List.length_set]) ?_
    exact E_iret rfl rfl, by
    refine Ef.in (md := mX6_behind) (L := [some (.ref 65), some (.int 1), some (.int a2), some (.int a3), none, none]) rfl (Nat.le_of_ble_eq_true rfl) rfl ?_
    refine E_aload_n rfl rfl ?_
    refine E_iload_n rfl rfl ?_
    refine E_iload_n rfl rfl ?_
    refine E_bipush (x := 20) rfl (by decide) ?_
    refine E_iload_n rfl rfl ?_
    refine E_if (t := 18) (b := true) rfl rfl ((cn_lt (rfl : (a3).toInt = (a3).toInt) (by decide : (0 : Int32).toInt = 0)).trans (decide_eq_true (by omega))) ?_
    refine E_iconst (x := 0) rfl (by decide) ?_
    have e8 : Ev ab_Z0 3 186 [.ref 65, .int 1, .int a2, .int 20, .int 0] (w0.set 48 (.inl [0, 0, 0, 1, 0, 0, 0, 0])) (some (.int (-3)), (w0.set 48 (.inl [0, 0, 0, 1, 0, 0, 0, 0]))) := by
      refine Ef.in (md := mX6_barsOf) (L := [some (.ref 65), some (.int 1), some (.int a2), some (.int 20), some (.int 0), none]) rfl (Nat.le_of_ble_eq_true rfl) rfl ?_
      refine E_aload_n rfl rfl ?_
      refine E_iload_n rfl rfl ?_
      refine E_callV (v := some (.int (-3))) (As := [.ref 65, .int 1]) (r0 := []) (cs2 := (w0.set 48 (.inl [0, 0, 0, 1, 0, 0, 0, 0]))) rfl rfl rfl (Nat.le_of_ble_eq_true rfl) rfl rfl c208_X6_wanted (by decide) rfl ?_
      refine E_istore (L2 := [some (.ref 65), some (.int 1), some (.int a2), some (.int 20), some (.int 0), some (.int (-3))]) rfl rfl ?_
      refine E_iload rfl rfl ?_
      refine E_if (t := 17) (b := false) rfl rfl (by decide) ?_
      refine E_iload rfl rfl ?_
      refine E_goto (t := 59) rfl rfl ?_
      exact E_iret rfl rfl
    refine E_callV (v := some (.int (-3))) (As := [.ref 65, .int 1, .int a2, .int 20, .int 0]) (r0 := []) (cs2 := (w0.set 48 (.inl [0, 0, 0, 1, 0, 0, 0, 0]))) rfl rfl rfl (Nat.le_of_ble_eq_true rfl) rfl rfl e8 (by decide) rfl ?_
    refine E_istore (L2 := [some (.ref 65), some (.int 1), some (.int a2), some (.int a3), some (.int (-3)), none]) rfl rfl ?_
    refine E_iload rfl rfl ?_
    refine E_if (t := 36) (b := false) rfl rfl (by decide) ?_
    refine E_aload_n rfl rfl ?_
    refine E_iload rfl rfl ?_
    refine E_callV (v := some (.int (-3))) (As := [.ref 65, .int (-3)]) (r0 := []) (cs2 := ((w0.set 48 (.inl [0, 0, 0, 1, 0, 0, 0, 0])).set 66 (.inl [0, 0, 0, 1, 0, 0, 0, 0]))) rfl rfl rfl (Nat.le_of_ble_eq_true rfl) rfl rfl c35_X6_no (by decide) (by simp only [List.length_set]) ?_
    exact E_iret rfl rfl, (by simp only [List.length_set]; rfl), (by simp only [List.length_set]; rfl), ((ab_szs rfl).trans ((ab_szs rfl).trans rfl)), fun _ => rfl⟩
theorem f_behind_4 (a2 a3 : Int32) (ha3h : a3.toInt ≤ -1) : p1_P 7 104 6 195 [.ref 0, .int 2, .int a2, .int a3] [.ref 65, .int 2, .int a2, .int a3] :=
  ⟨(-3), (w0.set 48 (.inl [0, 0, 0, 1, 0, 0, 0, 0])), ((w0.set 48 (.inl [0, 0, 0, 1, 0, 0, 0, 0])).set 66 (.inl [0, 0, 0, 1, 0, 0, 0, 0])), by
    refine Ef.in (md := mX5_behind) (L := [some (.ref 0), some (.int 2), some (.int a2), some (.int a3), none]) rfl (Nat.le_of_ble_eq_true rfl) rfl ?_
    refine E_aload_n rfl rfl ?_
    refine E_iload_n rfl rfl ?_
    refine E_iload_n rfl rfl ?_
    refine E_bipush (x := 20) rfl (by decide) ?_
    refine E_iload_n rfl rfl ?_
    refine E_iconst (x := 0) rfl (by decide) ?_
    refine E_iconst (x := 2) rfl (by decide) ?_
    have e8 : Ev ab_Z0 1 115 [.int a3, .int 0, .int 2] w0 (some (.int 0), w0) := by
      refine Ef.in (md := mX5_isFrom) (L := [some (.int a3), some (.int 0), some (.int 2)]) rfl (Nat.le_of_ble_eq_true rfl) rfl ?_
      refine E_iload_n rfl rfl ?_
      refine E_iload_n rfl rfl ?_
      refine E_ic (t := 14) (b := true) rfl rfl ((cn_lt (rfl : (a3).toInt = (a3).toInt) (by decide : (0 : Int32).toInt = 0)).trans (decide_eq_true (by omega))) ?_
      refine E_iconst (x := 0) rfl (by decide) ?_
      exact E_iret rfl rfl
    refine E_callS (v := some (.int 0)) (As := [.int a3, .int 0, .int 2]) (r0 := [.int 20, .int a2, .int 2, .ref 0]) (cs2 := w0) rfl rfl rfl (Nat.le_of_ble_eq_true rfl) rfl e8 (by decide) rfl ?_
    refine E_if (t := 18) (b := false) rfl rfl (by decide) ?_
    refine E_iconst (x := 1) rfl (by decide) ?_
    refine E_goto (t := 19) rfl rfl ?_
    have e19 : Ev ab_Z0 3 120 [.ref 0, .int 2, .int a2, .int 20, .int 1] w0 (some (.int 3), w0) := by
      refine Ef.in (md := mX5_whyNoTwos) (L := [some (.ref 0), some (.int 2), some (.int a2), some (.int 20), some (.int 1), none]) rfl (Nat.le_of_ble_eq_true rfl) rfl ?_
      refine E_aload_n rfl rfl ?_
      refine E_iload_n rfl rfl ?_
      refine E_callV (v := some (.int 3)) (As := [.ref 0, .int 2]) (r0 := []) (cs2 := w0) rfl rfl rfl (Nat.le_of_ble_eq_true rfl) rfl rfl c40_X5_whyNoRow (by decide) rfl ?_
      refine E_istore (L2 := [some (.ref 0), some (.int 2), some (.int a2), some (.int 20), some (.int 1), some (.int 3)]) rfl rfl ?_
      refine E_iload rfl rfl ?_
      refine E_if (t := 15) (b := false) rfl rfl (by decide) ?_
      refine E_iload rfl rfl ?_
      exact E_iret rfl rfl
    refine E_callV (v := some (.int 3)) (As := [.ref 0, .int 2, .int a2, .int 20, .int 1]) (r0 := []) (cs2 := w0) rfl rfl rfl (Nat.le_of_ble_eq_true rfl) rfl rfl e19 (by decide) rfl ?_
    refine E_istore (L2 := [some (.ref 0), some (.int 2), some (.int a2), some (.int a3), some (.int 3)]) rfl rfl ?_
    refine E_iload rfl rfl ?_
    refine E_if (t := 48) (b := true) rfl rfl (by decide) ?_
    refine E_iload rfl rfl ?_
    refine E_if (t := 60) (b := false) rfl rfl (by decide) ?_
    refine E_aload_n rfl rfl ?_
    refine E_iload rfl rfl ?_
    refine E_callV (v := some (.int (-3))) (As := [.ref 0, .int 3]) (r0 := []) (cs2 := (w0.set 48 (.inl [0, 0, 0, 1, 0, 0, 0, 0]))) rfl rfl rfl (Nat.le_of_ble_eq_true rfl) rfl rfl c32_X5_refuse (by decide) (by simp only [List.length_set]) ?_
    exact E_iret rfl rfl, by
    refine Ef.in (md := mX6_behind) (L := [some (.ref 65), some (.int 2), some (.int a2), some (.int a3), none, none]) rfl (Nat.le_of_ble_eq_true rfl) rfl ?_
    refine E_aload_n rfl rfl ?_
    refine E_iload_n rfl rfl ?_
    refine E_iload_n rfl rfl ?_
    refine E_bipush (x := 20) rfl (by decide) ?_
    refine E_iload_n rfl rfl ?_
    refine E_if (t := 18) (b := true) rfl rfl ((cn_lt (rfl : (a3).toInt = (a3).toInt) (by decide : (0 : Int32).toInt = 0)).trans (decide_eq_true (by omega))) ?_
    refine E_iconst (x := 0) rfl (by decide) ?_
    have e8 : Ev ab_Z0 3 186 [.ref 65, .int 2, .int a2, .int 20, .int 0] (w0.set 48 (.inl [0, 0, 0, 1, 0, 0, 0, 0])) (some (.int (-3)), (w0.set 48 (.inl [0, 0, 0, 1, 0, 0, 0, 0]))) := by
      refine Ef.in (md := mX6_barsOf) (L := [some (.ref 65), some (.int 2), some (.int a2), some (.int 20), some (.int 0), none]) rfl (Nat.le_of_ble_eq_true rfl) rfl ?_
      refine E_aload_n rfl rfl ?_
      refine E_iload_n rfl rfl ?_
      refine E_callV (v := some (.int (-3))) (As := [.ref 65, .int 2]) (r0 := []) (cs2 := (w0.set 48 (.inl [0, 0, 0, 1, 0, 0, 0, 0]))) rfl rfl rfl (Nat.le_of_ble_eq_true rfl) rfl rfl c211_X6_wanted (by decide) rfl ?_
      refine E_istore (L2 := [some (.ref 65), some (.int 2), some (.int a2), some (.int 20), some (.int 0), some (.int (-3))]) rfl rfl ?_
      refine E_iload rfl rfl ?_
      refine E_if (t := 17) (b := false) rfl rfl (by decide) ?_
      refine E_iload rfl rfl ?_
      refine E_goto (t := 59) rfl rfl ?_
      exact E_iret rfl rfl
    refine E_callV (v := some (.int (-3))) (As := [.ref 65, .int 2, .int a2, .int 20, .int 0]) (r0 := []) (cs2 := (w0.set 48 (.inl [0, 0, 0, 1, 0, 0, 0, 0]))) rfl rfl rfl (Nat.le_of_ble_eq_true rfl) rfl rfl e8 (by decide) rfl ?_
    refine E_istore (L2 := [some (.ref 65), some (.int 2), some (.int a2), some (.int a3), some (.int (-3)), none]) rfl rfl ?_
    refine E_iload rfl rfl ?_
    refine E_if (t := 36) (b := false) rfl rfl (by decide) ?_
    refine E_aload_n rfl rfl ?_
    refine E_iload rfl rfl ?_
    refine E_callV (v := some (.int (-3))) (As := [.ref 65, .int (-3)]) (r0 := []) (cs2 := ((w0.set 48 (.inl [0, 0, 0, 1, 0, 0, 0, 0])).set 66 (.inl [0, 0, 0, 1, 0, 0, 0, 0]))) rfl rfl rfl (Nat.le_of_ble_eq_true rfl) rfl rfl c35_X6_no (by decide) (by simp only [List.length_set]) ?_
    exact E_iret rfl rfl, (by simp only [List.length_set]; rfl), (by simp only [List.length_set]; rfl), ((ab_szs rfl).trans ((ab_szs rfl).trans rfl)), fun _ => rfl⟩
theorem f_behind_5 (a2 a3 : Int32) (ha3h : a3.toInt ≤ -1) : p1_P 7 104 6 195 [.ref 0, .int 3, .int a2, .int a3] [.ref 65, .int 3, .int a2, .int a3] :=
  ⟨(-3), (w0.set 48 (.inl [0, 0, 0, 1, 0, 0, 0, 0])), ((w0.set 48 (.inl [0, 0, 0, 1, 0, 0, 0, 0])).set 66 (.inl [0, 0, 0, 1, 0, 0, 0, 0])), by
    refine Ef.in (md := mX5_behind) (L := [some (.ref 0), some (.int 3), some (.int a2), some (.int a3), none]) rfl (Nat.le_of_ble_eq_true rfl) rfl ?_
    refine E_aload_n rfl rfl ?_
    refine E_iload_n rfl rfl ?_
    refine E_iload_n rfl rfl ?_
    refine E_bipush (x := 20) rfl (by decide) ?_
    refine E_iload_n rfl rfl ?_
    refine E_iconst (x := 0) rfl (by decide) ?_
    refine E_iconst (x := 2) rfl (by decide) ?_
    have e8 : Ev ab_Z0 1 115 [.int a3, .int 0, .int 2] w0 (some (.int 0), w0) := by
      refine Ef.in (md := mX5_isFrom) (L := [some (.int a3), some (.int 0), some (.int 2)]) rfl (Nat.le_of_ble_eq_true rfl) rfl ?_
      refine E_iload_n rfl rfl ?_
      refine E_iload_n rfl rfl ?_
      refine E_ic (t := 14) (b := true) rfl rfl ((cn_lt (rfl : (a3).toInt = (a3).toInt) (by decide : (0 : Int32).toInt = 0)).trans (decide_eq_true (by omega))) ?_
      refine E_iconst (x := 0) rfl (by decide) ?_
      exact E_iret rfl rfl
    refine E_callS (v := some (.int 0)) (As := [.int a3, .int 0, .int 2]) (r0 := [.int 20, .int a2, .int 3, .ref 0]) (cs2 := w0) rfl rfl rfl (Nat.le_of_ble_eq_true rfl) rfl e8 (by decide) rfl ?_
    refine E_if (t := 18) (b := false) rfl rfl (by decide) ?_
    refine E_iconst (x := 1) rfl (by decide) ?_
    refine E_goto (t := 19) rfl rfl ?_
    have e19 : Ev ab_Z0 3 120 [.ref 0, .int 3, .int a2, .int 20, .int 1] w0 (some (.int 3), w0) := by
      refine Ef.in (md := mX5_whyNoTwos) (L := [some (.ref 0), some (.int 3), some (.int a2), some (.int 20), some (.int 1), none]) rfl (Nat.le_of_ble_eq_true rfl) rfl ?_
      refine E_aload_n rfl rfl ?_
      refine E_iload_n rfl rfl ?_
      refine E_callV (v := some (.int 3)) (As := [.ref 0, .int 3]) (r0 := []) (cs2 := w0) rfl rfl rfl (Nat.le_of_ble_eq_true rfl) rfl rfl c44_X5_whyNoRow (by decide) rfl ?_
      refine E_istore (L2 := [some (.ref 0), some (.int 3), some (.int a2), some (.int 20), some (.int 1), some (.int 3)]) rfl rfl ?_
      refine E_iload rfl rfl ?_
      refine E_if (t := 15) (b := false) rfl rfl (by decide) ?_
      refine E_iload rfl rfl ?_
      exact E_iret rfl rfl
    refine E_callV (v := some (.int 3)) (As := [.ref 0, .int 3, .int a2, .int 20, .int 1]) (r0 := []) (cs2 := w0) rfl rfl rfl (Nat.le_of_ble_eq_true rfl) rfl rfl e19 (by decide) rfl ?_
    refine E_istore (L2 := [some (.ref 0), some (.int 3), some (.int a2), some (.int a3), some (.int 3)]) rfl rfl ?_
    refine E_iload rfl rfl ?_
    refine E_if (t := 48) (b := true) rfl rfl (by decide) ?_
    refine E_iload rfl rfl ?_
    refine E_if (t := 60) (b := false) rfl rfl (by decide) ?_
    refine E_aload_n rfl rfl ?_
    refine E_iload rfl rfl ?_
    refine E_callV (v := some (.int (-3))) (As := [.ref 0, .int 3]) (r0 := []) (cs2 := (w0.set 48 (.inl [0, 0, 0, 1, 0, 0, 0, 0]))) rfl rfl rfl (Nat.le_of_ble_eq_true rfl) rfl rfl c32_X5_refuse (by decide) (by simp only [List.length_set]) ?_
    exact E_iret rfl rfl, by
    refine Ef.in (md := mX6_behind) (L := [some (.ref 65), some (.int 3), some (.int a2), some (.int a3), none, none]) rfl (Nat.le_of_ble_eq_true rfl) rfl ?_
    refine E_aload_n rfl rfl ?_
    refine E_iload_n rfl rfl ?_
    refine E_iload_n rfl rfl ?_
    refine E_bipush (x := 20) rfl (by decide) ?_
    refine E_iload_n rfl rfl ?_
    refine E_if (t := 18) (b := true) rfl rfl ((cn_lt (rfl : (a3).toInt = (a3).toInt) (by decide : (0 : Int32).toInt = 0)).trans (decide_eq_true (by omega))) ?_
    refine E_iconst (x := 0) rfl (by decide) ?_
    have e8 : Ev ab_Z0 3 186 [.ref 65, .int 3, .int a2, .int 20, .int 0] (w0.set 48 (.inl [0, 0, 0, 1, 0, 0, 0, 0])) (some (.int (-3)), (w0.set 48 (.inl [0, 0, 0, 1, 0, 0, 0, 0]))) := by
      refine Ef.in (md := mX6_barsOf) (L := [some (.ref 65), some (.int 3), some (.int a2), some (.int 20), some (.int 0), none]) rfl (Nat.le_of_ble_eq_true rfl) rfl ?_
      refine E_aload_n rfl rfl ?_
      refine E_iload_n rfl rfl ?_
      refine E_callV (v := some (.int (-3))) (As := [.ref 65, .int 3]) (r0 := []) (cs2 := (w0.set 48 (.inl [0, 0, 0, 1, 0, 0, 0, 0]))) rfl rfl rfl (Nat.le_of_ble_eq_true rfl) rfl rfl c214_X6_wanted (by decide) rfl ?_
      refine E_istore (L2 := [some (.ref 65), some (.int 3), some (.int a2), some (.int 20), some (.int 0), some (.int (-3))]) rfl rfl ?_
      refine E_iload rfl rfl ?_
      refine E_if (t := 17) (b := false) rfl rfl (by decide) ?_
      refine E_iload rfl rfl ?_
      refine E_goto (t := 59) rfl rfl ?_
      exact E_iret rfl rfl
    refine E_callV (v := some (.int (-3))) (As := [.ref 65, .int 3, .int a2, .int 20, .int 0]) (r0 := []) (cs2 := (w0.set 48 (.inl [0, 0, 0, 1, 0, 0, 0, 0]))) rfl rfl rfl (Nat.le_of_ble_eq_true rfl) rfl rfl e8 (by decide) rfl ?_
    refine E_istore (L2 := [some (.ref 65), some (.int 3), some (.int a2), some (.int a3), some (.int (-3)), none]) rfl rfl ?_
    refine E_iload rfl rfl ?_
    refine E_if (t := 36) (b := false) rfl rfl (by decide) ?_
    refine E_aload_n rfl rfl ?_
    refine E_iload rfl rfl ?_
    refine E_callV (v := some (.int (-3))) (As := [.ref 65, .int (-3)]) (r0 := []) (cs2 := ((w0.set 48 (.inl [0, 0, 0, 1, 0, 0, 0, 0])).set 66 (.inl [0, 0, 0, 1, 0, 0, 0, 0]))) rfl rfl rfl (Nat.le_of_ble_eq_true rfl) rfl rfl c35_X6_no (by decide) (by simp only [List.length_set]) ?_
    exact E_iret rfl rfl, (by simp only [List.length_set]; rfl), (by simp only [List.length_set]; rfl), ((ab_szs rfl).trans ((ab_szs rfl).trans rfl)), fun _ => rfl⟩
theorem f_behind_6 (a2 a3 : Int32) (ha3h : a3.toInt ≤ -1) : p1_P 7 104 6 195 [.ref 0, .int 4, .int a2, .int a3] [.ref 65, .int 4, .int a2, .int a3] :=
  ⟨(-3), (w0.set 48 (.inl [0, 0, 0, 1, 0, 0, 0, 0])), ((w0.set 48 (.inl [0, 0, 0, 1, 0, 0, 0, 0])).set 66 (.inl [0, 0, 0, 1, 0, 0, 0, 0])), by
    refine Ef.in (md := mX5_behind) (L := [some (.ref 0), some (.int 4), some (.int a2), some (.int a3), none]) rfl (Nat.le_of_ble_eq_true rfl) rfl ?_
    refine E_aload_n rfl rfl ?_
    refine E_iload_n rfl rfl ?_
    refine E_iload_n rfl rfl ?_
    refine E_bipush (x := 20) rfl (by decide) ?_
    refine E_iload_n rfl rfl ?_
    refine E_iconst (x := 0) rfl (by decide) ?_
    refine E_iconst (x := 2) rfl (by decide) ?_
    have e8 : Ev ab_Z0 1 115 [.int a3, .int 0, .int 2] w0 (some (.int 0), w0) := by
      refine Ef.in (md := mX5_isFrom) (L := [some (.int a3), some (.int 0), some (.int 2)]) rfl (Nat.le_of_ble_eq_true rfl) rfl ?_
      refine E_iload_n rfl rfl ?_
      refine E_iload_n rfl rfl ?_
      refine E_ic (t := 14) (b := true) rfl rfl ((cn_lt (rfl : (a3).toInt = (a3).toInt) (by decide : (0 : Int32).toInt = 0)).trans (decide_eq_true (by omega))) ?_
      refine E_iconst (x := 0) rfl (by decide) ?_
      exact E_iret rfl rfl
    refine E_callS (v := some (.int 0)) (As := [.int a3, .int 0, .int 2]) (r0 := [.int 20, .int a2, .int 4, .ref 0]) (cs2 := w0) rfl rfl rfl (Nat.le_of_ble_eq_true rfl) rfl e8 (by decide) rfl ?_
    refine E_if (t := 18) (b := false) rfl rfl (by decide) ?_
    refine E_iconst (x := 1) rfl (by decide) ?_
    refine E_goto (t := 19) rfl rfl ?_
    have e19 : Ev ab_Z0 3 120 [.ref 0, .int 4, .int a2, .int 20, .int 1] w0 (some (.int 3), w0) := by
      refine Ef.in (md := mX5_whyNoTwos) (L := [some (.ref 0), some (.int 4), some (.int a2), some (.int 20), some (.int 1), none]) rfl (Nat.le_of_ble_eq_true rfl) rfl ?_
      refine E_aload_n rfl rfl ?_
      refine E_iload_n rfl rfl ?_
      refine E_callV (v := some (.int 3)) (As := [.ref 0, .int 4]) (r0 := []) (cs2 := w0) rfl rfl rfl (Nat.le_of_ble_eq_true rfl) rfl rfl c48_X5_whyNoRow (by decide) rfl ?_
      refine E_istore (L2 := [some (.ref 0), some (.int 4), some (.int a2), some (.int 20), some (.int 1), some (.int 3)]) rfl rfl ?_
      refine E_iload rfl rfl ?_
      refine E_if (t := 15) (b := false) rfl rfl (by decide) ?_
      refine E_iload rfl rfl ?_
      exact E_iret rfl rfl
    refine E_callV (v := some (.int 3)) (As := [.ref 0, .int 4, .int a2, .int 20, .int 1]) (r0 := []) (cs2 := w0) rfl rfl rfl (Nat.le_of_ble_eq_true rfl) rfl rfl e19 (by decide) rfl ?_
    refine E_istore (L2 := [some (.ref 0), some (.int 4), some (.int a2), some (.int a3), some (.int 3)]) rfl rfl ?_
    refine E_iload rfl rfl ?_
    refine E_if (t := 48) (b := true) rfl rfl (by decide) ?_
    refine E_iload rfl rfl ?_
    refine E_if (t := 60) (b := false) rfl rfl (by decide) ?_
    refine E_aload_n rfl rfl ?_
    refine E_iload rfl rfl ?_
    refine E_callV (v := some (.int (-3))) (As := [.ref 0, .int 3]) (r0 := []) (cs2 := (w0.set 48 (.inl [0, 0, 0, 1, 0, 0, 0, 0]))) rfl rfl rfl (Nat.le_of_ble_eq_true rfl) rfl rfl c32_X5_refuse (by decide) (by simp only [List.length_set]) ?_
    exact E_iret rfl rfl, by
    refine Ef.in (md := mX6_behind) (L := [some (.ref 65), some (.int 4), some (.int a2), some (.int a3), none, none]) rfl (Nat.le_of_ble_eq_true rfl) rfl ?_
    refine E_aload_n rfl rfl ?_
    refine E_iload_n rfl rfl ?_
    refine E_iload_n rfl rfl ?_
    refine E_bipush (x := 20) rfl (by decide) ?_
    refine E_iload_n rfl rfl ?_
    refine E_if (t := 18) (b := true) rfl rfl ((cn_lt (rfl : (a3).toInt = (a3).toInt) (by decide : (0 : Int32).toInt = 0)).trans (decide_eq_true (by omega))) ?_
    refine E_iconst (x := 0) rfl (by decide) ?_
    have e8 : Ev ab_Z0 3 186 [.ref 65, .int 4, .int a2, .int 20, .int 0] (w0.set 48 (.inl [0, 0, 0, 1, 0, 0, 0, 0])) (some (.int (-3)), (w0.set 48 (.inl [0, 0, 0, 1, 0, 0, 0, 0]))) := by
      refine Ef.in (md := mX6_barsOf) (L := [some (.ref 65), some (.int 4), some (.int a2), some (.int 20), some (.int 0), none]) rfl (Nat.le_of_ble_eq_true rfl) rfl ?_
      refine E_aload_n rfl rfl ?_
      refine E_iload_n rfl rfl ?_
      refine E_callV (v := some (.int (-3))) (As := [.ref 65, .int 4]) (r0 := []) (cs2 := (w0.set 48 (.inl [0, 0, 0, 1, 0, 0, 0, 0]))) rfl rfl rfl (Nat.le_of_ble_eq_true rfl) rfl rfl c217_X6_wanted (by decide) rfl ?_
      refine E_istore (L2 := [some (.ref 65), some (.int 4), some (.int a2), some (.int 20), some (.int 0), some (.int (-3))]) rfl rfl ?_
      refine E_iload rfl rfl ?_
      refine E_if (t := 17) (b := false) rfl rfl (by decide) ?_
      refine E_iload rfl rfl ?_
      refine E_goto (t := 59) rfl rfl ?_
      exact E_iret rfl rfl
    refine E_callV (v := some (.int (-3))) (As := [.ref 65, .int 4, .int a2, .int 20, .int 0]) (r0 := []) (cs2 := (w0.set 48 (.inl [0, 0, 0, 1, 0, 0, 0, 0]))) rfl rfl rfl (Nat.le_of_ble_eq_true rfl) rfl rfl e8 (by decide) rfl ?_
    refine E_istore (L2 := [some (.ref 65), some (.int 4), some (.int a2), some (.int a3), some (.int (-3)), none]) rfl rfl ?_
    refine E_iload rfl rfl ?_
    refine E_if (t := 36) (b := false) rfl rfl (by decide) ?_
    refine E_aload_n rfl rfl ?_
    refine E_iload rfl rfl ?_
    refine E_callV (v := some (.int (-3))) (As := [.ref 65, .int (-3)]) (r0 := []) (cs2 := ((w0.set 48 (.inl [0, 0, 0, 1, 0, 0, 0, 0])).set 66 (.inl [0, 0, 0, 1, 0, 0, 0, 0]))) rfl rfl rfl (Nat.le_of_ble_eq_true rfl) rfl rfl c35_X6_no (by decide) (by simp only [List.length_set]) ?_
    exact E_iret rfl rfl, (by simp only [List.length_set]; rfl), (by simp only [List.length_set]; rfl), ((ab_szs rfl).trans ((ab_szs rfl).trans rfl)), fun _ => rfl⟩
theorem f_behind_7 (a2 a3 : Int32) (ha3h : a3.toInt ≤ -1) : p1_P 7 104 6 195 [.ref 0, .int 5, .int a2, .int a3] [.ref 65, .int 5, .int a2, .int a3] :=
  ⟨(-3), (w0.set 48 (.inl [0, 0, 0, 1, 0, 0, 0, 0])), ((w0.set 48 (.inl [0, 0, 0, 1, 0, 0, 0, 0])).set 66 (.inl [0, 0, 0, 1, 0, 0, 0, 0])), by
    refine Ef.in (md := mX5_behind) (L := [some (.ref 0), some (.int 5), some (.int a2), some (.int a3), none]) rfl (Nat.le_of_ble_eq_true rfl) rfl ?_
    refine E_aload_n rfl rfl ?_
    refine E_iload_n rfl rfl ?_
    refine E_iload_n rfl rfl ?_
    refine E_bipush (x := 20) rfl (by decide) ?_
    refine E_iload_n rfl rfl ?_
    refine E_iconst (x := 0) rfl (by decide) ?_
    refine E_iconst (x := 2) rfl (by decide) ?_
    have e8 : Ev ab_Z0 1 115 [.int a3, .int 0, .int 2] w0 (some (.int 0), w0) := by
      refine Ef.in (md := mX5_isFrom) (L := [some (.int a3), some (.int 0), some (.int 2)]) rfl (Nat.le_of_ble_eq_true rfl) rfl ?_
      refine E_iload_n rfl rfl ?_
      refine E_iload_n rfl rfl ?_
      refine E_ic (t := 14) (b := true) rfl rfl ((cn_lt (rfl : (a3).toInt = (a3).toInt) (by decide : (0 : Int32).toInt = 0)).trans (decide_eq_true (by omega))) ?_
      refine E_iconst (x := 0) rfl (by decide) ?_
      exact E_iret rfl rfl
    refine E_callS (v := some (.int 0)) (As := [.int a3, .int 0, .int 2]) (r0 := [.int 20, .int a2, .int 5, .ref 0]) (cs2 := w0) rfl rfl rfl (Nat.le_of_ble_eq_true rfl) rfl e8 (by decide) rfl ?_
    refine E_if (t := 18) (b := false) rfl rfl (by decide) ?_
    refine E_iconst (x := 1) rfl (by decide) ?_
    refine E_goto (t := 19) rfl rfl ?_
    have e19 : Ev ab_Z0 3 120 [.ref 0, .int 5, .int a2, .int 20, .int 1] w0 (some (.int 3), w0) := by
      refine Ef.in (md := mX5_whyNoTwos) (L := [some (.ref 0), some (.int 5), some (.int a2), some (.int 20), some (.int 1), none]) rfl (Nat.le_of_ble_eq_true rfl) rfl ?_
      refine E_aload_n rfl rfl ?_
      refine E_iload_n rfl rfl ?_
      refine E_callV (v := some (.int 3)) (As := [.ref 0, .int 5]) (r0 := []) (cs2 := w0) rfl rfl rfl (Nat.le_of_ble_eq_true rfl) rfl rfl c52_X5_whyNoRow (by decide) rfl ?_
      refine E_istore (L2 := [some (.ref 0), some (.int 5), some (.int a2), some (.int 20), some (.int 1), some (.int 3)]) rfl rfl ?_
      refine E_iload rfl rfl ?_
      refine E_if (t := 15) (b := false) rfl rfl (by decide) ?_
      refine E_iload rfl rfl ?_
      exact E_iret rfl rfl
    refine E_callV (v := some (.int 3)) (As := [.ref 0, .int 5, .int a2, .int 20, .int 1]) (r0 := []) (cs2 := w0) rfl rfl rfl (Nat.le_of_ble_eq_true rfl) rfl rfl e19 (by decide) rfl ?_
    refine E_istore (L2 := [some (.ref 0), some (.int 5), some (.int a2), some (.int a3), some (.int 3)]) rfl rfl ?_
    refine E_iload rfl rfl ?_
    refine E_if (t := 48) (b := true) rfl rfl (by decide) ?_
    refine E_iload rfl rfl ?_
    refine E_if (t := 60) (b := false) rfl rfl (by decide) ?_
    refine E_aload_n rfl rfl ?_
    refine E_iload rfl rfl ?_
    refine E_callV (v := some (.int (-3))) (As := [.ref 0, .int 3]) (r0 := []) (cs2 := (w0.set 48 (.inl [0, 0, 0, 1, 0, 0, 0, 0]))) rfl rfl rfl (Nat.le_of_ble_eq_true rfl) rfl rfl c32_X5_refuse (by decide) (by simp only [List.length_set]) ?_
    exact E_iret rfl rfl, by
    refine Ef.in (md := mX6_behind) (L := [some (.ref 65), some (.int 5), some (.int a2), some (.int a3), none, none]) rfl (Nat.le_of_ble_eq_true rfl) rfl ?_
    refine E_aload_n rfl rfl ?_
    refine E_iload_n rfl rfl ?_
    refine E_iload_n rfl rfl ?_
    refine E_bipush (x := 20) rfl (by decide) ?_
    refine E_iload_n rfl rfl ?_
    refine E_if (t := 18) (b := true) rfl rfl ((cn_lt (rfl : (a3).toInt = (a3).toInt) (by decide : (0 : Int32).toInt = 0)).trans (decide_eq_true (by omega))) ?_
    refine E_iconst (x := 0) rfl (by decide) ?_
    have e8 : Ev ab_Z0 3 186 [.ref 65, .int 5, .int a2, .int 20, .int 0] (w0.set 48 (.inl [0, 0, 0, 1, 0, 0, 0, 0])) (some (.int (-3)), (w0.set 48 (.inl [0, 0, 0, 1, 0, 0, 0, 0]))) := by
      refine Ef.in (md := mX6_barsOf) (L := [some (.ref 65), some (.int 5), some (.int a2), some (.int 20), some (.int 0), none]) rfl (Nat.le_of_ble_eq_true rfl) rfl ?_
      refine E_aload_n rfl rfl ?_
      refine E_iload_n rfl rfl ?_
      refine E_callV (v := some (.int (-3))) (As := [.ref 65, .int 5]) (r0 := []) (cs2 := (w0.set 48 (.inl [0, 0, 0, 1, 0, 0, 0, 0]))) rfl rfl rfl (Nat.le_of_ble_eq_true rfl) rfl rfl c220_X6_wanted (by decide) rfl ?_
      refine E_istore (L2 := [some (.ref 65), some (.int 5), some (.int a2), some (.int 20), some (.int 0), some (.int (-3))]) rfl rfl ?_
      refine E_iload rfl rfl ?_
      refine E_if (t := 17) (b := false) rfl rfl (by decide) ?_
      refine E_iload rfl rfl ?_
      refine E_goto (t := 59) rfl rfl ?_
      exact E_iret rfl rfl
    refine E_callV (v := some (.int (-3))) (As := [.ref 65, .int 5, .int a2, .int 20, .int 0]) (r0 := []) (cs2 := (w0.set 48 (.inl [0, 0, 0, 1, 0, 0, 0, 0]))) rfl rfl rfl (Nat.le_of_ble_eq_true rfl) rfl rfl e8 (by decide) rfl ?_
    refine E_istore (L2 := [some (.ref 65), some (.int 5), some (.int a2), some (.int a3), some (.int (-3)), none]) rfl rfl ?_
    refine E_iload rfl rfl ?_
    refine E_if (t := 36) (b := false) rfl rfl (by decide) ?_
    refine E_aload_n rfl rfl ?_
    refine E_iload rfl rfl ?_
    refine E_callV (v := some (.int (-3))) (As := [.ref 65, .int (-3)]) (r0 := []) (cs2 := ((w0.set 48 (.inl [0, 0, 0, 1, 0, 0, 0, 0])).set 66 (.inl [0, 0, 0, 1, 0, 0, 0, 0]))) rfl rfl rfl (Nat.le_of_ble_eq_true rfl) rfl rfl c35_X6_no (by decide) (by simp only [List.length_set]) ?_
    exact E_iret rfl rfl, (by simp only [List.length_set]; rfl), (by simp only [List.length_set]; rfl), ((ab_szs rfl).trans ((ab_szs rfl).trans rfl)), fun _ => rfl⟩
theorem f_behind_8 (a2 a3 : Int32) (ha3h : a3.toInt ≤ -1) : p1_P 7 104 6 195 [.ref 0, .int 6, .int a2, .int a3] [.ref 65, .int 6, .int a2, .int a3] :=
  ⟨(-3), (w0.set 48 (.inl [0, 0, 0, 1, 0, 0, 0, 0])), ((w0.set 48 (.inl [0, 0, 0, 1, 0, 0, 0, 0])).set 66 (.inl [0, 0, 0, 1, 0, 0, 0, 0])), by
    refine Ef.in (md := mX5_behind) (L := [some (.ref 0), some (.int 6), some (.int a2), some (.int a3), none]) rfl (Nat.le_of_ble_eq_true rfl) rfl ?_
    refine E_aload_n rfl rfl ?_
    refine E_iload_n rfl rfl ?_
    refine E_iload_n rfl rfl ?_
    refine E_bipush (x := 20) rfl (by decide) ?_
    refine E_iload_n rfl rfl ?_
    refine E_iconst (x := 0) rfl (by decide) ?_
    refine E_iconst (x := 2) rfl (by decide) ?_
    have e8 : Ev ab_Z0 1 115 [.int a3, .int 0, .int 2] w0 (some (.int 0), w0) := by
      refine Ef.in (md := mX5_isFrom) (L := [some (.int a3), some (.int 0), some (.int 2)]) rfl (Nat.le_of_ble_eq_true rfl) rfl ?_
      refine E_iload_n rfl rfl ?_
      refine E_iload_n rfl rfl ?_
      refine E_ic (t := 14) (b := true) rfl rfl ((cn_lt (rfl : (a3).toInt = (a3).toInt) (by decide : (0 : Int32).toInt = 0)).trans (decide_eq_true (by omega))) ?_
      refine E_iconst (x := 0) rfl (by decide) ?_
      exact E_iret rfl rfl
    refine E_callS (v := some (.int 0)) (As := [.int a3, .int 0, .int 2]) (r0 := [.int 20, .int a2, .int 6, .ref 0]) (cs2 := w0) rfl rfl rfl (Nat.le_of_ble_eq_true rfl) rfl e8 (by decide) rfl ?_
    refine E_if (t := 18) (b := false) rfl rfl (by decide) ?_
    refine E_iconst (x := 1) rfl (by decide) ?_
    refine E_goto (t := 19) rfl rfl ?_
    have e19 : Ev ab_Z0 3 120 [.ref 0, .int 6, .int a2, .int 20, .int 1] w0 (some (.int 3), w0) := by
      refine Ef.in (md := mX5_whyNoTwos) (L := [some (.ref 0), some (.int 6), some (.int a2), some (.int 20), some (.int 1), none]) rfl (Nat.le_of_ble_eq_true rfl) rfl ?_
      refine E_aload_n rfl rfl ?_
      refine E_iload_n rfl rfl ?_
      refine E_callV (v := some (.int 3)) (As := [.ref 0, .int 6]) (r0 := []) (cs2 := w0) rfl rfl rfl (Nat.le_of_ble_eq_true rfl) rfl rfl c56_X5_whyNoRow (by decide) rfl ?_
      refine E_istore (L2 := [some (.ref 0), some (.int 6), some (.int a2), some (.int 20), some (.int 1), some (.int 3)]) rfl rfl ?_
      refine E_iload rfl rfl ?_
      refine E_if (t := 15) (b := false) rfl rfl (by decide) ?_
      refine E_iload rfl rfl ?_
      exact E_iret rfl rfl
    refine E_callV (v := some (.int 3)) (As := [.ref 0, .int 6, .int a2, .int 20, .int 1]) (r0 := []) (cs2 := w0) rfl rfl rfl (Nat.le_of_ble_eq_true rfl) rfl rfl e19 (by decide) rfl ?_
    refine E_istore (L2 := [some (.ref 0), some (.int 6), some (.int a2), some (.int a3), some (.int 3)]) rfl rfl ?_
    refine E_iload rfl rfl ?_
    refine E_if (t := 48) (b := true) rfl rfl (by decide) ?_
    refine E_iload rfl rfl ?_
    refine E_if (t := 60) (b := false) rfl rfl (by decide) ?_
    refine E_aload_n rfl rfl ?_
    refine E_iload rfl rfl ?_
    refine E_callV (v := some (.int (-3))) (As := [.ref 0, .int 3]) (r0 := []) (cs2 := (w0.set 48 (.inl [0, 0, 0, 1, 0, 0, 0, 0]))) rfl rfl rfl (Nat.le_of_ble_eq_true rfl) rfl rfl c32_X5_refuse (by decide) (by simp only [List.length_set]) ?_
    exact E_iret rfl rfl, by
    refine Ef.in (md := mX6_behind) (L := [some (.ref 65), some (.int 6), some (.int a2), some (.int a3), none, none]) rfl (Nat.le_of_ble_eq_true rfl) rfl ?_
    refine E_aload_n rfl rfl ?_
    refine E_iload_n rfl rfl ?_
    refine E_iload_n rfl rfl ?_
    refine E_bipush (x := 20) rfl (by decide) ?_
    refine E_iload_n rfl rfl ?_
    refine E_if (t := 18) (b := true) rfl rfl ((cn_lt (rfl : (a3).toInt = (a3).toInt) (by decide : (0 : Int32).toInt = 0)).trans (decide_eq_true (by omega))) ?_
    refine E_iconst (x := 0) rfl (by decide) ?_
    have e8 : Ev ab_Z0 3 186 [.ref 65, .int 6, .int a2, .int 20, .int 0] (w0.set 48 (.inl [0, 0, 0, 1, 0, 0, 0, 0])) (some (.int (-3)), (w0.set 48 (.inl [0, 0, 0, 1, 0, 0, 0, 0]))) := by
      refine Ef.in (md := mX6_barsOf) (L := [some (.ref 65), some (.int 6), some (.int a2), some (.int 20), some (.int 0), none]) rfl (Nat.le_of_ble_eq_true rfl) rfl ?_
      refine E_aload_n rfl rfl ?_
      refine E_iload_n rfl rfl ?_
      refine E_callV (v := some (.int (-3))) (As := [.ref 65, .int 6]) (r0 := []) (cs2 := (w0.set 48 (.inl [0, 0, 0, 1, 0, 0, 0, 0]))) rfl rfl rfl (Nat.le_of_ble_eq_true rfl) rfl rfl c223_X6_wanted (by decide) rfl ?_
      refine E_istore (L2 := [some (.ref 65), some (.int 6), some (.int a2), some (.int 20), some (.int 0), some (.int (-3))]) rfl rfl ?_
      refine E_iload rfl rfl ?_
      refine E_if (t := 17) (b := false) rfl rfl (by decide) ?_
      refine E_iload rfl rfl ?_
      refine E_goto (t := 59) rfl rfl ?_
      exact E_iret rfl rfl
    refine E_callV (v := some (.int (-3))) (As := [.ref 65, .int 6, .int a2, .int 20, .int 0]) (r0 := []) (cs2 := (w0.set 48 (.inl [0, 0, 0, 1, 0, 0, 0, 0]))) rfl rfl rfl (Nat.le_of_ble_eq_true rfl) rfl rfl e8 (by decide) rfl ?_
    refine E_istore (L2 := [some (.ref 65), some (.int 6), some (.int a2), some (.int a3), some (.int (-3)), none]) rfl rfl ?_
    refine E_iload rfl rfl ?_
    refine E_if (t := 36) (b := false) rfl rfl (by decide) ?_
    refine E_aload_n rfl rfl ?_
    refine E_iload rfl rfl ?_
    refine E_callV (v := some (.int (-3))) (As := [.ref 65, .int (-3)]) (r0 := []) (cs2 := ((w0.set 48 (.inl [0, 0, 0, 1, 0, 0, 0, 0])).set 66 (.inl [0, 0, 0, 1, 0, 0, 0, 0]))) rfl rfl rfl (Nat.le_of_ble_eq_true rfl) rfl rfl c35_X6_no (by decide) (by simp only [List.length_set]) ?_
    exact E_iret rfl rfl, (by simp only [List.length_set]; rfl), (by simp only [List.length_set]; rfl), ((ab_szs rfl).trans ((ab_szs rfl).trans rfl)), fun _ => rfl⟩
theorem f_behind_9 (a2 a3 : Int32) (ha3h : a3.toInt ≤ -1) : p1_P 7 104 6 195 [.ref 0, .int 7, .int a2, .int a3] [.ref 65, .int 7, .int a2, .int a3] :=
  ⟨(-3), (w0.set 48 (.inl [0, 0, 0, 1, 0, 0, 0, 0])), ((w0.set 48 (.inl [0, 0, 0, 1, 0, 0, 0, 0])).set 66 (.inl [0, 0, 0, 1, 0, 0, 0, 0])), by
    refine Ef.in (md := mX5_behind) (L := [some (.ref 0), some (.int 7), some (.int a2), some (.int a3), none]) rfl (Nat.le_of_ble_eq_true rfl) rfl ?_
    refine E_aload_n rfl rfl ?_
    refine E_iload_n rfl rfl ?_
    refine E_iload_n rfl rfl ?_
    refine E_bipush (x := 20) rfl (by decide) ?_
    refine E_iload_n rfl rfl ?_
    refine E_iconst (x := 0) rfl (by decide) ?_
    refine E_iconst (x := 2) rfl (by decide) ?_
    have e8 : Ev ab_Z0 1 115 [.int a3, .int 0, .int 2] w0 (some (.int 0), w0) := by
      refine Ef.in (md := mX5_isFrom) (L := [some (.int a3), some (.int 0), some (.int 2)]) rfl (Nat.le_of_ble_eq_true rfl) rfl ?_
      refine E_iload_n rfl rfl ?_
      refine E_iload_n rfl rfl ?_
      refine E_ic (t := 14) (b := true) rfl rfl ((cn_lt (rfl : (a3).toInt = (a3).toInt) (by decide : (0 : Int32).toInt = 0)).trans (decide_eq_true (by omega))) ?_
      refine E_iconst (x := 0) rfl (by decide) ?_
      exact E_iret rfl rfl
    refine E_callS (v := some (.int 0)) (As := [.int a3, .int 0, .int 2]) (r0 := [.int 20, .int a2, .int 7, .ref 0]) (cs2 := w0) rfl rfl rfl (Nat.le_of_ble_eq_true rfl) rfl e8 (by decide) rfl ?_
    refine E_if (t := 18) (b := false) rfl rfl (by decide) ?_
    refine E_iconst (x := 1) rfl (by decide) ?_
    refine E_goto (t := 19) rfl rfl ?_
    have e19 : Ev ab_Z0 3 120 [.ref 0, .int 7, .int a2, .int 20, .int 1] w0 (some (.int 3), w0) := by
      refine Ef.in (md := mX5_whyNoTwos) (L := [some (.ref 0), some (.int 7), some (.int a2), some (.int 20), some (.int 1), none]) rfl (Nat.le_of_ble_eq_true rfl) rfl ?_
      refine E_aload_n rfl rfl ?_
      refine E_iload_n rfl rfl ?_
      refine E_callV (v := some (.int 3)) (As := [.ref 0, .int 7]) (r0 := []) (cs2 := w0) rfl rfl rfl (Nat.le_of_ble_eq_true rfl) rfl rfl c60_X5_whyNoRow (by decide) rfl ?_
      refine E_istore (L2 := [some (.ref 0), some (.int 7), some (.int a2), some (.int 20), some (.int 1), some (.int 3)]) rfl rfl ?_
      refine E_iload rfl rfl ?_
      refine E_if (t := 15) (b := false) rfl rfl (by decide) ?_
      refine E_iload rfl rfl ?_
      exact E_iret rfl rfl
    refine E_callV (v := some (.int 3)) (As := [.ref 0, .int 7, .int a2, .int 20, .int 1]) (r0 := []) (cs2 := w0) rfl rfl rfl (Nat.le_of_ble_eq_true rfl) rfl rfl e19 (by decide) rfl ?_
    refine E_istore (L2 := [some (.ref 0), some (.int 7), some (.int a2), some (.int a3), some (.int 3)]) rfl rfl ?_
    refine E_iload rfl rfl ?_
    refine E_if (t := 48) (b := true) rfl rfl (by decide) ?_
    refine E_iload rfl rfl ?_
    refine E_if (t := 60) (b := false) rfl rfl (by decide) ?_
    refine E_aload_n rfl rfl ?_
    refine E_iload rfl rfl ?_
    refine E_callV (v := some (.int (-3))) (As := [.ref 0, .int 3]) (r0 := []) (cs2 := (w0.set 48 (.inl [0, 0, 0, 1, 0, 0, 0, 0]))) rfl rfl rfl (Nat.le_of_ble_eq_true rfl) rfl rfl c32_X5_refuse (by decide) (by simp only [List.length_set]) ?_
    exact E_iret rfl rfl, by
    refine Ef.in (md := mX6_behind) (L := [some (.ref 65), some (.int 7), some (.int a2), some (.int a3), none, none]) rfl (Nat.le_of_ble_eq_true rfl) rfl ?_
    refine E_aload_n rfl rfl ?_
    refine E_iload_n rfl rfl ?_
    refine E_iload_n rfl rfl ?_
    refine E_bipush (x := 20) rfl (by decide) ?_
    refine E_iload_n rfl rfl ?_
    refine E_if (t := 18) (b := true) rfl rfl ((cn_lt (rfl : (a3).toInt = (a3).toInt) (by decide : (0 : Int32).toInt = 0)).trans (decide_eq_true (by omega))) ?_
    refine E_iconst (x := 0) rfl (by decide) ?_
    have e8 : Ev ab_Z0 3 186 [.ref 65, .int 7, .int a2, .int 20, .int 0] (w0.set 48 (.inl [0, 0, 0, 1, 0, 0, 0, 0])) (some (.int (-3)), (w0.set 48 (.inl [0, 0, 0, 1, 0, 0, 0, 0]))) := by
      refine Ef.in (md := mX6_barsOf) (L := [some (.ref 65), some (.int 7), some (.int a2), some (.int 20), some (.int 0), none]) rfl (Nat.le_of_ble_eq_true rfl) rfl ?_
      refine E_aload_n rfl rfl ?_
      refine E_iload_n rfl rfl ?_
      refine E_callV (v := some (.int (-3))) (As := [.ref 65, .int 7]) (r0 := []) (cs2 := (w0.set 48 (.inl [0, 0, 0, 1, 0, 0, 0, 0]))) rfl rfl rfl (Nat.le_of_ble_eq_true rfl) rfl rfl c226_X6_wanted (by decide) rfl ?_
      refine E_istore (L2 := [some (.ref 65), some (.int 7), some (.int a2), some (.int 20), some (.int 0), some (.int (-3))]) rfl rfl ?_
      refine E_iload rfl rfl ?_
      refine E_if (t := 17) (b := false) rfl rfl (by decide) ?_
      refine E_iload rfl rfl ?_
      refine E_goto (t := 59) rfl rfl ?_
      exact E_iret rfl rfl
    refine E_callV (v := some (.int (-3))) (As := [.ref 65, .int 7, .int a2, .int 20, .int 0]) (r0 := []) (cs2 := (w0.set 48 (.inl [0, 0, 0, 1, 0, 0, 0, 0]))) rfl rfl rfl (Nat.le_of_ble_eq_true rfl) rfl rfl e8 (by decide) rfl ?_
    refine E_istore (L2 := [some (.ref 65), some (.int 7), some (.int a2), some (.int a3), some (.int (-3)), none]) rfl rfl ?_
    refine E_iload rfl rfl ?_
    refine E_if (t := 36) (b := false) rfl rfl (by decide) ?_
    refine E_aload_n rfl rfl ?_
    refine E_iload rfl rfl ?_
    refine E_callV (v := some (.int (-3))) (As := [.ref 65, .int (-3)]) (r0 := []) (cs2 := ((w0.set 48 (.inl [0, 0, 0, 1, 0, 0, 0, 0])).set 66 (.inl [0, 0, 0, 1, 0, 0, 0, 0]))) rfl rfl rfl (Nat.le_of_ble_eq_true rfl) rfl rfl c35_X6_no (by decide) (by simp only [List.length_set]) ?_
    exact E_iret rfl rfl, (by simp only [List.length_set]; rfl), (by simp only [List.length_set]; rfl), ((ab_szs rfl).trans ((ab_szs rfl).trans rfl)), fun _ => rfl⟩
theorem f_behind_10 (a1 a2 a3 : Int32) (ha1l : (8 : Int) ≤ a1.toInt) (ha3h : a3.toInt ≤ -1) : p1_P 7 104 6 195 [.ref 0, .int a1, .int a2, .int a3] [.ref 65, .int a1, .int a2, .int a3] :=
  ⟨(-1), (w0.set 48 (.inl [0, 1, 0, 0, 0, 0, 0, 0])), ((w0.set 48 (.inl [0, 1, 0, 0, 0, 0, 0, 0])).set 66 (.inl [0, 1, 0, 0, 0, 0, 0, 0])), by
    refine Ef.in (md := mX5_behind) (L := [some (.ref 0), some (.int a1), some (.int a2), some (.int a3), none]) rfl (Nat.le_of_ble_eq_true rfl) rfl ?_
    refine E_aload_n rfl rfl ?_
    refine E_iload_n rfl rfl ?_
    refine E_iload_n rfl rfl ?_
    refine E_bipush (x := 20) rfl (by decide) ?_
    refine E_iload_n rfl rfl ?_
    refine E_iconst (x := 0) rfl (by decide) ?_
    refine E_iconst (x := 2) rfl (by decide) ?_
    have e8 : Ev ab_Z0 1 115 [.int a3, .int 0, .int 2] w0 (some (.int 0), w0) := by
      refine Ef.in (md := mX5_isFrom) (L := [some (.int a3), some (.int 0), some (.int 2)]) rfl (Nat.le_of_ble_eq_true rfl) rfl ?_
      refine E_iload_n rfl rfl ?_
      refine E_iload_n rfl rfl ?_
      refine E_ic (t := 14) (b := true) rfl rfl ((cn_lt (rfl : (a3).toInt = (a3).toInt) (by decide : (0 : Int32).toInt = 0)).trans (decide_eq_true (by omega))) ?_
      refine E_iconst (x := 0) rfl (by decide) ?_
      exact E_iret rfl rfl
    refine E_callS (v := some (.int 0)) (As := [.int a3, .int 0, .int 2]) (r0 := [.int 20, .int a2, .int a1, .ref 0]) (cs2 := w0) rfl rfl rfl (Nat.le_of_ble_eq_true rfl) rfl e8 (by decide) rfl ?_
    refine E_if (t := 18) (b := false) rfl rfl (by decide) ?_
    refine E_iconst (x := 1) rfl (by decide) ?_
    refine E_goto (t := 19) rfl rfl ?_
    have e19 : Ev ab_Z0 3 120 [.ref 0, .int a1, .int a2, .int 20, .int 1] w0 (some (.int 1), w0) := by
      refine Ef.in (md := mX5_whyNoTwos) (L := [some (.ref 0), some (.int a1), some (.int a2), some (.int 20), some (.int 1), none]) rfl (Nat.le_of_ble_eq_true rfl) rfl ?_
      refine E_aload_n rfl rfl ?_
      refine E_iload_n rfl rfl ?_
      have e3 : Ev ab_Z0 2 119 [.ref 0, .int a1] w0 (some (.int 1), w0) := by
        refine Ef.in (md := mX5_whyNoRow) (L := [some (.ref 0), some (.int a1)]) rfl (Nat.le_of_ble_eq_true rfl) rfl ?_
        refine E_iload_n rfl rfl ?_
        have e2 : Ev ab_Z0 1 117 [.int a1] w0 (some (.int 0), w0) := by
          refine Ef.in (md := mX5_isShelf) (L := [some (.int a1)]) rfl (Nat.le_of_ble_eq_true rfl) rfl ?_
          refine E_iload_n rfl rfl ?_
          refine E_if (t := 14) (b := false) rfl rfl ((cn_lt (rfl : (a1).toInt = (a1).toInt) (by decide : (0 : Int32).toInt = 0)).trans (decide_eq_false (by omega))) ?_
          refine E_iload_n rfl rfl ?_
          refine E_bipush (x := 8) rfl (by decide) ?_
          refine E_ic (t := 14) (b := true) rfl rfl ((cn_ge (rfl : (a1).toInt = (a1).toInt) (by decide : (8 : Int32).toInt = 8)).trans (decide_eq_true (by omega))) ?_
          refine E_iconst (x := 0) rfl (by decide) ?_
          exact E_iret rfl rfl
        refine E_callS (v := some (.int 0)) (As := [.int a1]) (r0 := []) (cs2 := w0) rfl rfl rfl (Nat.le_of_ble_eq_true rfl) rfl e2 (by decide) rfl ?_
        refine E_if (t := 9) (b := false) rfl rfl (by decide) ?_
        refine E_iconst (x := 1) rfl (by decide) ?_
        exact E_iret rfl rfl
      refine E_callV (v := some (.int 1)) (As := [.ref 0, .int a1]) (r0 := []) (cs2 := w0) rfl rfl rfl (Nat.le_of_ble_eq_true rfl) rfl rfl e3 (by decide) rfl ?_
      refine E_istore (L2 := [some (.ref 0), some (.int a1), some (.int a2), some (.int 20), some (.int 1), some (.int 1)]) rfl rfl ?_
      refine E_iload rfl rfl ?_
      refine E_if (t := 15) (b := false) rfl rfl (by decide) ?_
      refine E_iload rfl rfl ?_
      exact E_iret rfl rfl
    refine E_callV (v := some (.int 1)) (As := [.ref 0, .int a1, .int a2, .int 20, .int 1]) (r0 := []) (cs2 := w0) rfl rfl rfl (Nat.le_of_ble_eq_true rfl) rfl rfl e19 (by decide) rfl ?_
    refine E_istore (L2 := [some (.ref 0), some (.int a1), some (.int a2), some (.int a3), some (.int 1)]) rfl rfl ?_
    refine E_iload rfl rfl ?_
    refine E_if (t := 48) (b := true) rfl rfl (by decide) ?_
    refine E_iload rfl rfl ?_
    refine E_if (t := 60) (b := false) rfl rfl (by decide) ?_
    refine E_aload_n rfl rfl ?_
    refine E_iload rfl rfl ?_
    refine E_callV (v := some (.int (-1))) (As := [.ref 0, .int 1]) (r0 := []) (cs2 := (w0.set 48 (.inl [0, 1, 0, 0, 0, 0, 0, 0]))) rfl rfl rfl (Nat.le_of_ble_eq_true rfl) rfl rfl c1_X5_refuse (by decide) (by simp only [List.length_set]) ?_
    exact E_iret rfl rfl, by
    refine Ef.in (md := mX6_behind) (L := [some (.ref 65), some (.int a1), some (.int a2), some (.int a3), none, none]) rfl (Nat.le_of_ble_eq_true rfl) rfl ?_
    refine E_aload_n rfl rfl ?_
    refine E_iload_n rfl rfl ?_
    refine E_iload_n rfl rfl ?_
    refine E_bipush (x := 20) rfl (by decide) ?_
    refine E_iload_n rfl rfl ?_
    refine E_if (t := 18) (b := true) rfl rfl ((cn_lt (rfl : (a3).toInt = (a3).toInt) (by decide : (0 : Int32).toInt = 0)).trans (decide_eq_true (by omega))) ?_
    refine E_iconst (x := 0) rfl (by decide) ?_
    have e8 : Ev ab_Z0 3 186 [.ref 65, .int a1, .int a2, .int 20, .int 0] (w0.set 48 (.inl [0, 1, 0, 0, 0, 0, 0, 0])) (some (.int (-1)), (w0.set 48 (.inl [0, 1, 0, 0, 0, 0, 0, 0]))) := by
      refine Ef.in (md := mX6_barsOf) (L := [some (.ref 65), some (.int a1), some (.int a2), some (.int 20), some (.int 0), none]) rfl (Nat.le_of_ble_eq_true rfl) rfl ?_
      refine E_aload_n rfl rfl ?_
      refine E_iload_n rfl rfl ?_
      have e3 : Ev ab_Z0 2 142 [.ref 65, .int a1] (w0.set 48 (.inl [0, 1, 0, 0, 0, 0, 0, 0])) (some (.int (-1)), (w0.set 48 (.inl [0, 1, 0, 0, 0, 0, 0, 0]))) := by
        refine Ef.in (md := mX6_wanted) (L := [some (.ref 65), some (.int a1)]) rfl (Nat.le_of_ble_eq_true rfl) rfl ?_
        refine E_aload_n rfl rfl ?_
        refine E_iload_n rfl rfl ?_
        have e3 : Ev ab_Z0 1 131 [.ref 65, .int a1] (w0.set 48 (.inl [0, 1, 0, 0, 0, 0, 0, 0])) (some (.int 0), (w0.set 48 (.inl [0, 1, 0, 0, 0, 0, 0, 0]))) := by
          refine Ef.in (md := mX6_isShelf) (L := [some (.ref 65), some (.int a1)]) rfl (Nat.le_of_ble_eq_true rfl) rfl ?_
          refine E_iload_n rfl rfl ?_
          refine E_if (t := 14) (b := false) rfl rfl ((cn_lt (rfl : (a1).toInt = (a1).toInt) (by decide : (0 : Int32).toInt = 0)).trans (decide_eq_false (by omega))) ?_
          refine E_iload_n rfl rfl ?_
          refine E_bipush (x := 8) rfl (by decide) ?_
          refine E_ic (t := 14) (b := true) rfl rfl ((cn_ge (rfl : (a1).toInt = (a1).toInt) (by decide : (8 : Int32).toInt = 8)).trans (decide_eq_true (by omega))) ?_
          refine E_iconst (x := 0) rfl (by decide) ?_
          exact E_iret rfl rfl
        refine E_callV (v := some (.int 0)) (As := [.ref 65, .int a1]) (r0 := []) (cs2 := (w0.set 48 (.inl [0, 1, 0, 0, 0, 0, 0, 0]))) rfl rfl rfl (Nat.le_of_ble_eq_true rfl) rfl rfl e3 (by decide) rfl ?_
        refine E_if (t := 12) (b := false) rfl rfl (by decide) ?_
        refine E_iconst (x := (-1)) rfl (by decide) ?_
        refine E_goto (t := 42) rfl rfl ?_
        exact E_iret rfl rfl
      refine E_callV (v := some (.int (-1))) (As := [.ref 65, .int a1]) (r0 := []) (cs2 := (w0.set 48 (.inl [0, 1, 0, 0, 0, 0, 0, 0]))) rfl rfl rfl (Nat.le_of_ble_eq_true rfl) rfl rfl e3 (by decide) rfl ?_
      refine E_istore (L2 := [some (.ref 65), some (.int a1), some (.int a2), some (.int 20), some (.int 0), some (.int (-1))]) rfl rfl ?_
      refine E_iload rfl rfl ?_
      refine E_if (t := 17) (b := false) rfl rfl (by decide) ?_
      refine E_iload rfl rfl ?_
      refine E_goto (t := 59) rfl rfl ?_
      exact E_iret rfl rfl
    refine E_callV (v := some (.int (-1))) (As := [.ref 65, .int a1, .int a2, .int 20, .int 0]) (r0 := []) (cs2 := (w0.set 48 (.inl [0, 1, 0, 0, 0, 0, 0, 0]))) rfl rfl rfl (Nat.le_of_ble_eq_true rfl) rfl rfl e8 (by decide) rfl ?_
    refine E_istore (L2 := [some (.ref 65), some (.int a1), some (.int a2), some (.int a3), some (.int (-1)), none]) rfl rfl ?_
    refine E_iload rfl rfl ?_
    refine E_if (t := 36) (b := false) rfl rfl (by decide) ?_
    refine E_aload_n rfl rfl ?_
    refine E_iload rfl rfl ?_
    refine E_callV (v := some (.int (-1))) (As := [.ref 65, .int (-1)]) (r0 := []) (cs2 := ((w0.set 48 (.inl [0, 1, 0, 0, 0, 0, 0, 0])).set 66 (.inl [0, 1, 0, 0, 0, 0, 0, 0]))) rfl rfl rfl (Nat.le_of_ble_eq_true rfl) rfl rfl c3_X6_no (by decide) (by simp only [List.length_set]) ?_
    exact E_iret rfl rfl, (by simp only [List.length_set]; rfl), (by simp only [List.length_set]; rfl), ((ab_szs rfl).trans ((ab_szs rfl).trans rfl)), fun _ => rfl⟩
theorem f_behind_11 (a1 a2 a3 : Int32) (ha1h : a1.toInt ≤ -1) (ha3l : (0 : Int) ≤ a3.toInt) (ha3h : a3.toInt ≤ 2) : p1_P 7 104 6 195 [.ref 0, .int a1, .int a2, .int a3] [.ref 65, .int a1, .int a2, .int a3] :=
  ⟨(-1), (w0.set 48 (.inl [0, 1, 0, 0, 0, 0, 0, 0])), ((w0.set 48 (.inl [0, 1, 0, 0, 0, 0, 0, 0])).set 66 (.inl [0, 1, 0, 0, 0, 0, 0, 0])), by
    refine Ef.in (md := mX5_behind) (L := [some (.ref 0), some (.int a1), some (.int a2), some (.int a3), none]) rfl (Nat.le_of_ble_eq_true rfl) rfl ?_
    refine E_aload_n rfl rfl ?_
    refine E_iload_n rfl rfl ?_
    refine E_iload_n rfl rfl ?_
    refine E_bipush (x := 20) rfl (by decide) ?_
    refine E_iload_n rfl rfl ?_
    refine E_iconst (x := 0) rfl (by decide) ?_
    refine E_iconst (x := 2) rfl (by decide) ?_
    have e8 : Ev ab_Z0 1 115 [.int a3, .int 0, .int 2] w0 (some (.int 1), w0) := by
      refine Ef.in (md := mX5_isFrom) (L := [some (.int a3), some (.int 0), some (.int 2)]) rfl (Nat.le_of_ble_eq_true rfl) rfl ?_
      refine E_iload_n rfl rfl ?_
      refine E_iload_n rfl rfl ?_
      refine E_ic (t := 14) (b := false) rfl rfl ((cn_lt (rfl : (a3).toInt = (a3).toInt) (by decide : (0 : Int32).toInt = 0)).trans (decide_eq_false (by omega))) ?_
      refine E_iload_n rfl rfl ?_
      refine E_iload_n rfl rfl ?_
      refine E_ic (t := 14) (b := false) rfl rfl ((cn_gt (rfl : (a3).toInt = (a3).toInt) (by decide : (2 : Int32).toInt = 2)).trans (decide_eq_false (by omega))) ?_
      refine E_iconst (x := 1) rfl (by decide) ?_
      refine E_goto (t := 15) rfl rfl ?_
      exact E_iret rfl rfl
    refine E_callS (v := some (.int 1)) (As := [.int a3, .int 0, .int 2]) (r0 := [.int 20, .int a2, .int a1, .ref 0]) (cs2 := w0) rfl rfl rfl (Nat.le_of_ble_eq_true rfl) rfl e8 (by decide) rfl ?_
    refine E_if (t := 18) (b := true) rfl rfl (by decide) ?_
    refine E_iconst (x := 0) rfl (by decide) ?_
    have e22 : Ev ab_Z0 3 120 [.ref 0, .int a1, .int a2, .int 20, .int 0] w0 (some (.int 1), w0) := by
      refine Ef.in (md := mX5_whyNoTwos) (L := [some (.ref 0), some (.int a1), some (.int a2), some (.int 20), some (.int 0), none]) rfl (Nat.le_of_ble_eq_true rfl) rfl ?_
      refine E_aload_n rfl rfl ?_
      refine E_iload_n rfl rfl ?_
      have e3 : Ev ab_Z0 2 119 [.ref 0, .int a1] w0 (some (.int 1), w0) := by
        refine Ef.in (md := mX5_whyNoRow) (L := [some (.ref 0), some (.int a1)]) rfl (Nat.le_of_ble_eq_true rfl) rfl ?_
        refine E_iload_n rfl rfl ?_
        have e2 : Ev ab_Z0 1 117 [.int a1] w0 (some (.int 0), w0) := by
          refine Ef.in (md := mX5_isShelf) (L := [some (.int a1)]) rfl (Nat.le_of_ble_eq_true rfl) rfl ?_
          refine E_iload_n rfl rfl ?_
          refine E_if (t := 14) (b := true) rfl rfl ((cn_lt (rfl : (a1).toInt = (a1).toInt) (by decide : (0 : Int32).toInt = 0)).trans (decide_eq_true (by omega))) ?_
          refine E_iconst (x := 0) rfl (by decide) ?_
          exact E_iret rfl rfl
        refine E_callS (v := some (.int 0)) (As := [.int a1]) (r0 := []) (cs2 := w0) rfl rfl rfl (Nat.le_of_ble_eq_true rfl) rfl e2 (by decide) rfl ?_
        refine E_if (t := 9) (b := false) rfl rfl (by decide) ?_
        refine E_iconst (x := 1) rfl (by decide) ?_
        exact E_iret rfl rfl
      refine E_callV (v := some (.int 1)) (As := [.ref 0, .int a1]) (r0 := []) (cs2 := w0) rfl rfl rfl (Nat.le_of_ble_eq_true rfl) rfl rfl e3 (by decide) rfl ?_
      refine E_istore (L2 := [some (.ref 0), some (.int a1), some (.int a2), some (.int 20), some (.int 0), some (.int 1)]) rfl rfl ?_
      refine E_iload rfl rfl ?_
      refine E_if (t := 15) (b := false) rfl rfl (by decide) ?_
      refine E_iload rfl rfl ?_
      exact E_iret rfl rfl
    refine E_callV (v := some (.int 1)) (As := [.ref 0, .int a1, .int a2, .int 20, .int 0]) (r0 := []) (cs2 := w0) rfl rfl rfl (Nat.le_of_ble_eq_true rfl) rfl rfl e22 (by decide) rfl ?_
    refine E_istore (L2 := [some (.ref 0), some (.int a1), some (.int a2), some (.int a3), some (.int 1)]) rfl rfl ?_
    refine E_iload rfl rfl ?_
    refine E_if (t := 48) (b := true) rfl rfl (by decide) ?_
    refine E_iload rfl rfl ?_
    refine E_if (t := 60) (b := false) rfl rfl (by decide) ?_
    refine E_aload_n rfl rfl ?_
    refine E_iload rfl rfl ?_
    refine E_callV (v := some (.int (-1))) (As := [.ref 0, .int 1]) (r0 := []) (cs2 := (w0.set 48 (.inl [0, 1, 0, 0, 0, 0, 0, 0]))) rfl rfl rfl (Nat.le_of_ble_eq_true rfl) rfl rfl c1_X5_refuse (by decide) (by simp only [List.length_set]) ?_
    exact E_iret rfl rfl, by
    refine Ef.in (md := mX6_behind) (L := [some (.ref 65), some (.int a1), some (.int a2), some (.int a3), none, none]) rfl (Nat.le_of_ble_eq_true rfl) rfl ?_
    refine E_aload_n rfl rfl ?_
    refine E_iload_n rfl rfl ?_
    refine E_iload_n rfl rfl ?_
    refine E_bipush (x := 20) rfl (by decide) ?_
    refine E_iload_n rfl rfl ?_
    refine E_if (t := 18) (b := false) rfl rfl ((cn_lt (rfl : (a3).toInt = (a3).toInt) (by decide : (0 : Int32).toInt = 0)).trans (decide_eq_false (by omega))) ?_
    refine E_iload_n rfl rfl ?_
    refine E_iconst (x := 2) rfl (by decide) ?_
    refine E_ic (t := 18) (b := false) rfl rfl ((cn_gt (rfl : (a3).toInt = (a3).toInt) (by decide : (2 : Int32).toInt = 2)).trans (decide_eq_false (by omega))) ?_
    refine E_iconst (x := 1) rfl (by decide) ?_
    refine E_goto (t := 19) rfl rfl ?_
    have e12 : Ev ab_Z0 3 186 [.ref 65, .int a1, .int a2, .int 20, .int 1] (w0.set 48 (.inl [0, 1, 0, 0, 0, 0, 0, 0])) (some (.int (-1)), (w0.set 48 (.inl [0, 1, 0, 0, 0, 0, 0, 0]))) := by
      refine Ef.in (md := mX6_barsOf) (L := [some (.ref 65), some (.int a1), some (.int a2), some (.int 20), some (.int 1), none]) rfl (Nat.le_of_ble_eq_true rfl) rfl ?_
      refine E_aload_n rfl rfl ?_
      refine E_iload_n rfl rfl ?_
      have e3 : Ev ab_Z0 2 142 [.ref 65, .int a1] (w0.set 48 (.inl [0, 1, 0, 0, 0, 0, 0, 0])) (some (.int (-1)), (w0.set 48 (.inl [0, 1, 0, 0, 0, 0, 0, 0]))) := by
        refine Ef.in (md := mX6_wanted) (L := [some (.ref 65), some (.int a1)]) rfl (Nat.le_of_ble_eq_true rfl) rfl ?_
        refine E_aload_n rfl rfl ?_
        refine E_iload_n rfl rfl ?_
        have e3 : Ev ab_Z0 1 131 [.ref 65, .int a1] (w0.set 48 (.inl [0, 1, 0, 0, 0, 0, 0, 0])) (some (.int 0), (w0.set 48 (.inl [0, 1, 0, 0, 0, 0, 0, 0]))) := by
          refine Ef.in (md := mX6_isShelf) (L := [some (.ref 65), some (.int a1)]) rfl (Nat.le_of_ble_eq_true rfl) rfl ?_
          refine E_iload_n rfl rfl ?_
          refine E_if (t := 14) (b := true) rfl rfl ((cn_lt (rfl : (a1).toInt = (a1).toInt) (by decide : (0 : Int32).toInt = 0)).trans (decide_eq_true (by omega))) ?_
          refine E_iconst (x := 0) rfl (by decide) ?_
          exact E_iret rfl rfl
        refine E_callV (v := some (.int 0)) (As := [.ref 65, .int a1]) (r0 := []) (cs2 := (w0.set 48 (.inl [0, 1, 0, 0, 0, 0, 0, 0]))) rfl rfl rfl (Nat.le_of_ble_eq_true rfl) rfl rfl e3 (by decide) rfl ?_
        refine E_if (t := 12) (b := false) rfl rfl (by decide) ?_
        refine E_iconst (x := (-1)) rfl (by decide) ?_
        refine E_goto (t := 42) rfl rfl ?_
        exact E_iret rfl rfl
      refine E_callV (v := some (.int (-1))) (As := [.ref 65, .int a1]) (r0 := []) (cs2 := (w0.set 48 (.inl [0, 1, 0, 0, 0, 0, 0, 0]))) rfl rfl rfl (Nat.le_of_ble_eq_true rfl) rfl rfl e3 (by decide) rfl ?_
      refine E_istore (L2 := [some (.ref 65), some (.int a1), some (.int a2), some (.int 20), some (.int 1), some (.int (-1))]) rfl rfl ?_
      refine E_iload rfl rfl ?_
      refine E_if (t := 17) (b := false) rfl rfl (by decide) ?_
      refine E_iload rfl rfl ?_
      refine E_goto (t := 59) rfl rfl ?_
      exact E_iret rfl rfl
    refine E_callV (v := some (.int (-1))) (As := [.ref 65, .int a1, .int a2, .int 20, .int 1]) (r0 := []) (cs2 := (w0.set 48 (.inl [0, 1, 0, 0, 0, 0, 0, 0]))) rfl rfl rfl (Nat.le_of_ble_eq_true rfl) rfl rfl e12 (by decide) rfl ?_
    refine E_istore (L2 := [some (.ref 65), some (.int a1), some (.int a2), some (.int a3), some (.int (-1)), none]) rfl rfl ?_
    refine E_iload rfl rfl ?_
    refine E_if (t := 36) (b := false) rfl rfl (by decide) ?_
    refine E_aload_n rfl rfl ?_
    refine E_iload rfl rfl ?_
    refine E_callV (v := some (.int (-1))) (As := [.ref 65, .int (-1)]) (r0 := []) (cs2 := ((w0.set 48 (.inl [0, 1, 0, 0, 0, 0, 0, 0])).set 66 (.inl [0, 1, 0, 0, 0, 0, 0, 0]))) rfl rfl rfl (Nat.le_of_ble_eq_true rfl) rfl rfl c3_X6_no (by decide) (by simp only [List.length_set]) ?_
    exact E_iret rfl rfl, (by simp only [List.length_set]; rfl), (by simp only [List.length_set]; rfl), ((ab_szs rfl).trans ((ab_szs rfl).trans rfl)), fun _ => rfl⟩
theorem f_behind_12 (a2 a3 : Int32) (ha3l : (0 : Int) ≤ a3.toInt) (ha3h : a3.toInt ≤ 2) : p1_P 7 104 6 195 [.ref 0, .int 0, .int a2, .int a3] [.ref 65, .int 0, .int a2, .int a3] :=
  ⟨(-3), (w0.set 48 (.inl [0, 0, 0, 1, 0, 0, 0, 0])), ((w0.set 48 (.inl [0, 0, 0, 1, 0, 0, 0, 0])).set 66 (.inl [0, 0, 0, 1, 0, 0, 0, 0])), by
    refine Ef.in (md := mX5_behind) (L := [some (.ref 0), some (.int 0), some (.int a2), some (.int a3), none]) rfl (Nat.le_of_ble_eq_true rfl) rfl ?_
    refine E_aload_n rfl rfl ?_
    refine E_iload_n rfl rfl ?_
    refine E_iload_n rfl rfl ?_
    refine E_bipush (x := 20) rfl (by decide) ?_
    refine E_iload_n rfl rfl ?_
    refine E_iconst (x := 0) rfl (by decide) ?_
    refine E_iconst (x := 2) rfl (by decide) ?_
    have e8 : Ev ab_Z0 1 115 [.int a3, .int 0, .int 2] w0 (some (.int 1), w0) := by
      refine Ef.in (md := mX5_isFrom) (L := [some (.int a3), some (.int 0), some (.int 2)]) rfl (Nat.le_of_ble_eq_true rfl) rfl ?_
      refine E_iload_n rfl rfl ?_
      refine E_iload_n rfl rfl ?_
      refine E_ic (t := 14) (b := false) rfl rfl ((cn_lt (rfl : (a3).toInt = (a3).toInt) (by decide : (0 : Int32).toInt = 0)).trans (decide_eq_false (by omega))) ?_
      refine E_iload_n rfl rfl ?_
      refine E_iload_n rfl rfl ?_
      refine E_ic (t := 14) (b := false) rfl rfl ((cn_gt (rfl : (a3).toInt = (a3).toInt) (by decide : (2 : Int32).toInt = 2)).trans (decide_eq_false (by omega))) ?_
      refine E_iconst (x := 1) rfl (by decide) ?_
      refine E_goto (t := 15) rfl rfl ?_
      exact E_iret rfl rfl
    refine E_callS (v := some (.int 1)) (As := [.int a3, .int 0, .int 2]) (r0 := [.int 20, .int a2, .int 0, .ref 0]) (cs2 := w0) rfl rfl rfl (Nat.le_of_ble_eq_true rfl) rfl e8 (by decide) rfl ?_
    refine E_if (t := 18) (b := true) rfl rfl (by decide) ?_
    refine E_iconst (x := 0) rfl (by decide) ?_
    have e22 : Ev ab_Z0 3 120 [.ref 0, .int 0, .int a2, .int 20, .int 0] w0 (some (.int 3), w0) := by
      refine Ef.in (md := mX5_whyNoTwos) (L := [some (.ref 0), some (.int 0), some (.int a2), some (.int 20), some (.int 0), none]) rfl (Nat.le_of_ble_eq_true rfl) rfl ?_
      refine E_aload_n rfl rfl ?_
      refine E_iload_n rfl rfl ?_
      refine E_callV (v := some (.int 3)) (As := [.ref 0, .int 0]) (r0 := []) (cs2 := w0) rfl rfl rfl (Nat.le_of_ble_eq_true rfl) rfl rfl c29_X5_whyNoRow (by decide) rfl ?_
      refine E_istore (L2 := [some (.ref 0), some (.int 0), some (.int a2), some (.int 20), some (.int 0), some (.int 3)]) rfl rfl ?_
      refine E_iload rfl rfl ?_
      refine E_if (t := 15) (b := false) rfl rfl (by decide) ?_
      refine E_iload rfl rfl ?_
      exact E_iret rfl rfl
    refine E_callV (v := some (.int 3)) (As := [.ref 0, .int 0, .int a2, .int 20, .int 0]) (r0 := []) (cs2 := w0) rfl rfl rfl (Nat.le_of_ble_eq_true rfl) rfl rfl e22 (by decide) rfl ?_
    refine E_istore (L2 := [some (.ref 0), some (.int 0), some (.int a2), some (.int a3), some (.int 3)]) rfl rfl ?_
    refine E_iload rfl rfl ?_
    refine E_if (t := 48) (b := true) rfl rfl (by decide) ?_
    refine E_iload rfl rfl ?_
    refine E_if (t := 60) (b := false) rfl rfl (by decide) ?_
    refine E_aload_n rfl rfl ?_
    refine E_iload rfl rfl ?_
    refine E_callV (v := some (.int (-3))) (As := [.ref 0, .int 3]) (r0 := []) (cs2 := (w0.set 48 (.inl [0, 0, 0, 1, 0, 0, 0, 0]))) rfl rfl rfl (Nat.le_of_ble_eq_true rfl) rfl rfl c32_X5_refuse (by decide) (by simp only [List.length_set]) ?_
    exact E_iret rfl rfl, by
    refine Ef.in (md := mX6_behind) (L := [some (.ref 65), some (.int 0), some (.int a2), some (.int a3), none, none]) rfl (Nat.le_of_ble_eq_true rfl) rfl ?_
    refine E_aload_n rfl rfl ?_
    refine E_iload_n rfl rfl ?_
    refine E_iload_n rfl rfl ?_
    refine E_bipush (x := 20) rfl (by decide) ?_
    refine E_iload_n rfl rfl ?_
    refine E_if (t := 18) (b := false) rfl rfl ((cn_lt (rfl : (a3).toInt = (a3).toInt) (by decide : (0 : Int32).toInt = 0)).trans (decide_eq_false (by omega))) ?_
    refine E_iload_n rfl rfl ?_
    refine E_iconst (x := 2) rfl (by decide) ?_
    refine E_ic (t := 18) (b := false) rfl rfl ((cn_gt (rfl : (a3).toInt = (a3).toInt) (by decide : (2 : Int32).toInt = 2)).trans (decide_eq_false (by omega))) ?_
    refine E_iconst (x := 1) rfl (by decide) ?_
    refine E_goto (t := 19) rfl rfl ?_
    have e12 : Ev ab_Z0 3 186 [.ref 65, .int 0, .int a2, .int 20, .int 1] (w0.set 48 (.inl [0, 0, 0, 1, 0, 0, 0, 0])) (some (.int (-3)), (w0.set 48 (.inl [0, 0, 0, 1, 0, 0, 0, 0]))) := by
      refine Ef.in (md := mX6_barsOf) (L := [some (.ref 65), some (.int 0), some (.int a2), some (.int 20), some (.int 1), none]) rfl (Nat.le_of_ble_eq_true rfl) rfl ?_
      refine E_aload_n rfl rfl ?_
      refine E_iload_n rfl rfl ?_
      refine E_callV (v := some (.int (-3))) (As := [.ref 65, .int 0]) (r0 := []) (cs2 := (w0.set 48 (.inl [0, 0, 0, 1, 0, 0, 0, 0]))) rfl rfl rfl (Nat.le_of_ble_eq_true rfl) rfl rfl c205_X6_wanted (by decide) rfl ?_
      refine E_istore (L2 := [some (.ref 65), some (.int 0), some (.int a2), some (.int 20), some (.int 1), some (.int (-3))]) rfl rfl ?_
      refine E_iload rfl rfl ?_
      refine E_if (t := 17) (b := false) rfl rfl (by decide) ?_
      refine E_iload rfl rfl ?_
      refine E_goto (t := 59) rfl rfl ?_
      exact E_iret rfl rfl
    refine E_callV (v := some (.int (-3))) (As := [.ref 65, .int 0, .int a2, .int 20, .int 1]) (r0 := []) (cs2 := (w0.set 48 (.inl [0, 0, 0, 1, 0, 0, 0, 0]))) rfl rfl rfl (Nat.le_of_ble_eq_true rfl) rfl rfl e12 (by decide) rfl ?_
    refine E_istore (L2 := [some (.ref 65), some (.int 0), some (.int a2), some (.int a3), some (.int (-3)), none]) rfl rfl ?_
    refine E_iload rfl rfl ?_
    refine E_if (t := 36) (b := false) rfl rfl (by decide) ?_
    refine E_aload_n rfl rfl ?_
    refine E_iload rfl rfl ?_
    refine E_callV (v := some (.int (-3))) (As := [.ref 65, .int (-3)]) (r0 := []) (cs2 := ((w0.set 48 (.inl [0, 0, 0, 1, 0, 0, 0, 0])).set 66 (.inl [0, 0, 0, 1, 0, 0, 0, 0]))) rfl rfl rfl (Nat.le_of_ble_eq_true rfl) rfl rfl c35_X6_no (by decide) (by simp only [List.length_set]) ?_
    exact E_iret rfl rfl, (by simp only [List.length_set]; rfl), (by simp only [List.length_set]; rfl), ((ab_szs rfl).trans ((ab_szs rfl).trans rfl)), fun _ => rfl⟩
theorem f_behind_13 (a2 a3 : Int32) (ha3l : (0 : Int) ≤ a3.toInt) (ha3h : a3.toInt ≤ 2) : p1_P 7 104 6 195 [.ref 0, .int 1, .int a2, .int a3] [.ref 65, .int 1, .int a2, .int a3] :=
  ⟨(-3), (w0.set 48 (.inl [0, 0, 0, 1, 0, 0, 0, 0])), ((w0.set 48 (.inl [0, 0, 0, 1, 0, 0, 0, 0])).set 66 (.inl [0, 0, 0, 1, 0, 0, 0, 0])), by
    refine Ef.in (md := mX5_behind) (L := [some (.ref 0), some (.int 1), some (.int a2), some (.int a3), none]) rfl (Nat.le_of_ble_eq_true rfl) rfl ?_
    refine E_aload_n rfl rfl ?_
    refine E_iload_n rfl rfl ?_
    refine E_iload_n rfl rfl ?_
    refine E_bipush (x := 20) rfl (by decide) ?_
    refine E_iload_n rfl rfl ?_
    refine E_iconst (x := 0) rfl (by decide) ?_
    refine E_iconst (x := 2) rfl (by decide) ?_
    have e8 : Ev ab_Z0 1 115 [.int a3, .int 0, .int 2] w0 (some (.int 1), w0) := by
      refine Ef.in (md := mX5_isFrom) (L := [some (.int a3), some (.int 0), some (.int 2)]) rfl (Nat.le_of_ble_eq_true rfl) rfl ?_
      refine E_iload_n rfl rfl ?_
      refine E_iload_n rfl rfl ?_
      refine E_ic (t := 14) (b := false) rfl rfl ((cn_lt (rfl : (a3).toInt = (a3).toInt) (by decide : (0 : Int32).toInt = 0)).trans (decide_eq_false (by omega))) ?_
      refine E_iload_n rfl rfl ?_
      refine E_iload_n rfl rfl ?_
      refine E_ic (t := 14) (b := false) rfl rfl ((cn_gt (rfl : (a3).toInt = (a3).toInt) (by decide : (2 : Int32).toInt = 2)).trans (decide_eq_false (by omega))) ?_
      refine E_iconst (x := 1) rfl (by decide) ?_
      refine E_goto (t := 15) rfl rfl ?_
      exact E_iret rfl rfl
    refine E_callS (v := some (.int 1)) (As := [.int a3, .int 0, .int 2]) (r0 := [.int 20, .int a2, .int 1, .ref 0]) (cs2 := w0) rfl rfl rfl (Nat.le_of_ble_eq_true rfl) rfl e8 (by decide) rfl ?_
    refine E_if (t := 18) (b := true) rfl rfl (by decide) ?_
    refine E_iconst (x := 0) rfl (by decide) ?_
    have e22 : Ev ab_Z0 3 120 [.ref 0, .int 1, .int a2, .int 20, .int 0] w0 (some (.int 3), w0) := by
      refine Ef.in (md := mX5_whyNoTwos) (L := [some (.ref 0), some (.int 1), some (.int a2), some (.int 20), some (.int 0), none]) rfl (Nat.le_of_ble_eq_true rfl) rfl ?_
      refine E_aload_n rfl rfl ?_
      refine E_iload_n rfl rfl ?_
      refine E_callV (v := some (.int 3)) (As := [.ref 0, .int 1]) (r0 := []) (cs2 := w0) rfl rfl rfl (Nat.le_of_ble_eq_true rfl) rfl rfl c36_X5_whyNoRow (by decide) rfl ?_
      refine E_istore (L2 := [some (.ref 0), some (.int 1), some (.int a2), some (.int 20), some (.int 0), some (.int 3)]) rfl rfl ?_
      refine E_iload rfl rfl ?_
      refine E_if (t := 15) (b := false) rfl rfl (by decide) ?_
      refine E_iload rfl rfl ?_
      exact E_iret rfl rfl
    refine E_callV (v := some (.int 3)) (As := [.ref 0, .int 1, .int a2, .int 20, .int 0]) (r0 := []) (cs2 := w0) rfl rfl rfl (Nat.le_of_ble_eq_true rfl) rfl rfl e22 (by decide) rfl ?_
    refine E_istore (L2 := [some (.ref 0), some (.int 1), some (.int a2), some (.int a3), some (.int 3)]) rfl rfl ?_
    refine E_iload rfl rfl ?_
    refine E_if (t := 48) (b := true) rfl rfl (by decide) ?_
    refine E_iload rfl rfl ?_
    refine E_if (t := 60) (b := false) rfl rfl (by decide) ?_
    refine E_aload_n rfl rfl ?_
    refine E_iload rfl rfl ?_
    refine E_callV (v := some (.int (-3))) (As := [.ref 0, .int 3]) (r0 := []) (cs2 := (w0.set 48 (.inl [0, 0, 0, 1, 0, 0, 0, 0]))) rfl rfl rfl (Nat.le_of_ble_eq_true rfl) rfl rfl c32_X5_refuse (by decide) (by simp only [List.length_set]) ?_
    exact E_iret rfl rfl, by
    refine Ef.in (md := mX6_behind) (L := [some (.ref 65), some (.int 1), some (.int a2), some (.int a3), none, none]) rfl (Nat.le_of_ble_eq_true rfl) rfl ?_
    refine E_aload_n rfl rfl ?_
    refine E_iload_n rfl rfl ?_
    refine E_iload_n rfl rfl ?_
    refine E_bipush (x := 20) rfl (by decide) ?_
    refine E_iload_n rfl rfl ?_
    refine E_if (t := 18) (b := false) rfl rfl ((cn_lt (rfl : (a3).toInt = (a3).toInt) (by decide : (0 : Int32).toInt = 0)).trans (decide_eq_false (by omega))) ?_
    refine E_iload_n rfl rfl ?_
    refine E_iconst (x := 2) rfl (by decide) ?_
    refine E_ic (t := 18) (b := false) rfl rfl ((cn_gt (rfl : (a3).toInt = (a3).toInt) (by decide : (2 : Int32).toInt = 2)).trans (decide_eq_false (by omega))) ?_
    refine E_iconst (x := 1) rfl (by decide) ?_
    refine E_goto (t := 19) rfl rfl ?_
    have e12 : Ev ab_Z0 3 186 [.ref 65, .int 1, .int a2, .int 20, .int 1] (w0.set 48 (.inl [0, 0, 0, 1, 0, 0, 0, 0])) (some (.int (-3)), (w0.set 48 (.inl [0, 0, 0, 1, 0, 0, 0, 0]))) := by
      refine Ef.in (md := mX6_barsOf) (L := [some (.ref 65), some (.int 1), some (.int a2), some (.int 20), some (.int 1), none]) rfl (Nat.le_of_ble_eq_true rfl) rfl ?_
      refine E_aload_n rfl rfl ?_
      refine E_iload_n rfl rfl ?_
      refine E_callV (v := some (.int (-3))) (As := [.ref 65, .int 1]) (r0 := []) (cs2 := (w0.set 48 (.inl [0, 0, 0, 1, 0, 0, 0, 0]))) rfl rfl rfl (Nat.le_of_ble_eq_true rfl) rfl rfl c208_X6_wanted (by decide) rfl ?_
      refine E_istore (L2 := [some (.ref 65), some (.int 1), some (.int a2), some (.int 20), some (.int 1), some (.int (-3))]) rfl rfl ?_
      refine E_iload rfl rfl ?_
      refine E_if (t := 17) (b := false) rfl rfl (by decide) ?_
      refine E_iload rfl rfl ?_
      refine E_goto (t := 59) rfl rfl ?_
      exact E_iret rfl rfl
    refine E_callV (v := some (.int (-3))) (As := [.ref 65, .int 1, .int a2, .int 20, .int 1]) (r0 := []) (cs2 := (w0.set 48 (.inl [0, 0, 0, 1, 0, 0, 0, 0]))) rfl rfl rfl (Nat.le_of_ble_eq_true rfl) rfl rfl e12 (by decide) rfl ?_
    refine E_istore (L2 := [some (.ref 65), some (.int 1), some (.int a2), some (.int a3), some (.int (-3)), none]) rfl rfl ?_
    refine E_iload rfl rfl ?_
    refine E_if (t := 36) (b := false) rfl rfl (by decide) ?_
    refine E_aload_n rfl rfl ?_
    refine E_iload rfl rfl ?_
    refine E_callV (v := some (.int (-3))) (As := [.ref 65, .int (-3)]) (r0 := []) (cs2 := ((w0.set 48 (.inl [0, 0, 0, 1, 0, 0, 0, 0])).set 66 (.inl [0, 0, 0, 1, 0, 0, 0, 0]))) rfl rfl rfl (Nat.le_of_ble_eq_true rfl) rfl rfl c35_X6_no (by decide) (by simp only [List.length_set]) ?_
    exact E_iret rfl rfl, (by simp only [List.length_set]; rfl), (by simp only [List.length_set]; rfl), ((ab_szs rfl).trans ((ab_szs rfl).trans rfl)), fun _ => rfl⟩
theorem f_behind_14 (a2 a3 : Int32) (ha3l : (0 : Int) ≤ a3.toInt) (ha3h : a3.toInt ≤ 2) : p1_P 7 104 6 195 [.ref 0, .int 2, .int a2, .int a3] [.ref 65, .int 2, .int a2, .int a3] :=
  ⟨(-3), (w0.set 48 (.inl [0, 0, 0, 1, 0, 0, 0, 0])), ((w0.set 48 (.inl [0, 0, 0, 1, 0, 0, 0, 0])).set 66 (.inl [0, 0, 0, 1, 0, 0, 0, 0])), by
    refine Ef.in (md := mX5_behind) (L := [some (.ref 0), some (.int 2), some (.int a2), some (.int a3), none]) rfl (Nat.le_of_ble_eq_true rfl) rfl ?_
    refine E_aload_n rfl rfl ?_
    refine E_iload_n rfl rfl ?_
    refine E_iload_n rfl rfl ?_
    refine E_bipush (x := 20) rfl (by decide) ?_
    refine E_iload_n rfl rfl ?_
    refine E_iconst (x := 0) rfl (by decide) ?_
    refine E_iconst (x := 2) rfl (by decide) ?_
    have e8 : Ev ab_Z0 1 115 [.int a3, .int 0, .int 2] w0 (some (.int 1), w0) := by
      refine Ef.in (md := mX5_isFrom) (L := [some (.int a3), some (.int 0), some (.int 2)]) rfl (Nat.le_of_ble_eq_true rfl) rfl ?_
      refine E_iload_n rfl rfl ?_
      refine E_iload_n rfl rfl ?_
      refine E_ic (t := 14) (b := false) rfl rfl ((cn_lt (rfl : (a3).toInt = (a3).toInt) (by decide : (0 : Int32).toInt = 0)).trans (decide_eq_false (by omega))) ?_
      refine E_iload_n rfl rfl ?_
      refine E_iload_n rfl rfl ?_
      refine E_ic (t := 14) (b := false) rfl rfl ((cn_gt (rfl : (a3).toInt = (a3).toInt) (by decide : (2 : Int32).toInt = 2)).trans (decide_eq_false (by omega))) ?_
      refine E_iconst (x := 1) rfl (by decide) ?_
      refine E_goto (t := 15) rfl rfl ?_
      exact E_iret rfl rfl
    refine E_callS (v := some (.int 1)) (As := [.int a3, .int 0, .int 2]) (r0 := [.int 20, .int a2, .int 2, .ref 0]) (cs2 := w0) rfl rfl rfl (Nat.le_of_ble_eq_true rfl) rfl e8 (by decide) rfl ?_
    refine E_if (t := 18) (b := true) rfl rfl (by decide) ?_
    refine E_iconst (x := 0) rfl (by decide) ?_
    have e22 : Ev ab_Z0 3 120 [.ref 0, .int 2, .int a2, .int 20, .int 0] w0 (some (.int 3), w0) := by
      refine Ef.in (md := mX5_whyNoTwos) (L := [some (.ref 0), some (.int 2), some (.int a2), some (.int 20), some (.int 0), none]) rfl (Nat.le_of_ble_eq_true rfl) rfl ?_
      refine E_aload_n rfl rfl ?_
      refine E_iload_n rfl rfl ?_
      refine E_callV (v := some (.int 3)) (As := [.ref 0, .int 2]) (r0 := []) (cs2 := w0) rfl rfl rfl (Nat.le_of_ble_eq_true rfl) rfl rfl c40_X5_whyNoRow (by decide) rfl ?_
      refine E_istore (L2 := [some (.ref 0), some (.int 2), some (.int a2), some (.int 20), some (.int 0), some (.int 3)]) rfl rfl ?_
      refine E_iload rfl rfl ?_
      refine E_if (t := 15) (b := false) rfl rfl (by decide) ?_
      refine E_iload rfl rfl ?_
      exact E_iret rfl rfl
    refine E_callV (v := some (.int 3)) (As := [.ref 0, .int 2, .int a2, .int 20, .int 0]) (r0 := []) (cs2 := w0) rfl rfl rfl (Nat.le_of_ble_eq_true rfl) rfl rfl e22 (by decide) rfl ?_
    refine E_istore (L2 := [some (.ref 0), some (.int 2), some (.int a2), some (.int a3), some (.int 3)]) rfl rfl ?_
    refine E_iload rfl rfl ?_
    refine E_if (t := 48) (b := true) rfl rfl (by decide) ?_
    refine E_iload rfl rfl ?_
    refine E_if (t := 60) (b := false) rfl rfl (by decide) ?_
    refine E_aload_n rfl rfl ?_
    refine E_iload rfl rfl ?_
    refine E_callV (v := some (.int (-3))) (As := [.ref 0, .int 3]) (r0 := []) (cs2 := (w0.set 48 (.inl [0, 0, 0, 1, 0, 0, 0, 0]))) rfl rfl rfl (Nat.le_of_ble_eq_true rfl) rfl rfl c32_X5_refuse (by decide) (by simp only [List.length_set]) ?_
    exact E_iret rfl rfl, by
    refine Ef.in (md := mX6_behind) (L := [some (.ref 65), some (.int 2), some (.int a2), some (.int a3), none, none]) rfl (Nat.le_of_ble_eq_true rfl) rfl ?_
    refine E_aload_n rfl rfl ?_
    refine E_iload_n rfl rfl ?_
    refine E_iload_n rfl rfl ?_
    refine E_bipush (x := 20) rfl (by decide) ?_
    refine E_iload_n rfl rfl ?_
    refine E_if (t := 18) (b := false) rfl rfl ((cn_lt (rfl : (a3).toInt = (a3).toInt) (by decide : (0 : Int32).toInt = 0)).trans (decide_eq_false (by omega))) ?_
    refine E_iload_n rfl rfl ?_
    refine E_iconst (x := 2) rfl (by decide) ?_
    refine E_ic (t := 18) (b := false) rfl rfl ((cn_gt (rfl : (a3).toInt = (a3).toInt) (by decide : (2 : Int32).toInt = 2)).trans (decide_eq_false (by omega))) ?_
    refine E_iconst (x := 1) rfl (by decide) ?_
    refine E_goto (t := 19) rfl rfl ?_
    have e12 : Ev ab_Z0 3 186 [.ref 65, .int 2, .int a2, .int 20, .int 1] (w0.set 48 (.inl [0, 0, 0, 1, 0, 0, 0, 0])) (some (.int (-3)), (w0.set 48 (.inl [0, 0, 0, 1, 0, 0, 0, 0]))) := by
      refine Ef.in (md := mX6_barsOf) (L := [some (.ref 65), some (.int 2), some (.int a2), some (.int 20), some (.int 1), none]) rfl (Nat.le_of_ble_eq_true rfl) rfl ?_
      refine E_aload_n rfl rfl ?_
      refine E_iload_n rfl rfl ?_
      refine E_callV (v := some (.int (-3))) (As := [.ref 65, .int 2]) (r0 := []) (cs2 := (w0.set 48 (.inl [0, 0, 0, 1, 0, 0, 0, 0]))) rfl rfl rfl (Nat.le_of_ble_eq_true rfl) rfl rfl c211_X6_wanted (by decide) rfl ?_
      refine E_istore (L2 := [some (.ref 65), some (.int 2), some (.int a2), some (.int 20), some (.int 1), some (.int (-3))]) rfl rfl ?_
      refine E_iload rfl rfl ?_
      refine E_if (t := 17) (b := false) rfl rfl (by decide) ?_
      refine E_iload rfl rfl ?_
      refine E_goto (t := 59) rfl rfl ?_
      exact E_iret rfl rfl
    refine E_callV (v := some (.int (-3))) (As := [.ref 65, .int 2, .int a2, .int 20, .int 1]) (r0 := []) (cs2 := (w0.set 48 (.inl [0, 0, 0, 1, 0, 0, 0, 0]))) rfl rfl rfl (Nat.le_of_ble_eq_true rfl) rfl rfl e12 (by decide) rfl ?_
    refine E_istore (L2 := [some (.ref 65), some (.int 2), some (.int a2), some (.int a3), some (.int (-3)), none]) rfl rfl ?_
    refine E_iload rfl rfl ?_
    refine E_if (t := 36) (b := false) rfl rfl (by decide) ?_
    refine E_aload_n rfl rfl ?_
    refine E_iload rfl rfl ?_
    refine E_callV (v := some (.int (-3))) (As := [.ref 65, .int (-3)]) (r0 := []) (cs2 := ((w0.set 48 (.inl [0, 0, 0, 1, 0, 0, 0, 0])).set 66 (.inl [0, 0, 0, 1, 0, 0, 0, 0]))) rfl rfl rfl (Nat.le_of_ble_eq_true rfl) rfl rfl c35_X6_no (by decide) (by simp only [List.length_set]) ?_
    exact E_iret rfl rfl, (by simp only [List.length_set]; rfl), (by simp only [List.length_set]; rfl), ((ab_szs rfl).trans ((ab_szs rfl).trans rfl)), fun _ => rfl⟩
theorem f_behind_15 (a2 a3 : Int32) (ha3l : (0 : Int) ≤ a3.toInt) (ha3h : a3.toInt ≤ 2) : p1_P 7 104 6 195 [.ref 0, .int 3, .int a2, .int a3] [.ref 65, .int 3, .int a2, .int a3] :=
  ⟨(-3), (w0.set 48 (.inl [0, 0, 0, 1, 0, 0, 0, 0])), ((w0.set 48 (.inl [0, 0, 0, 1, 0, 0, 0, 0])).set 66 (.inl [0, 0, 0, 1, 0, 0, 0, 0])), by
    refine Ef.in (md := mX5_behind) (L := [some (.ref 0), some (.int 3), some (.int a2), some (.int a3), none]) rfl (Nat.le_of_ble_eq_true rfl) rfl ?_
    refine E_aload_n rfl rfl ?_
    refine E_iload_n rfl rfl ?_
    refine E_iload_n rfl rfl ?_
    refine E_bipush (x := 20) rfl (by decide) ?_
    refine E_iload_n rfl rfl ?_
    refine E_iconst (x := 0) rfl (by decide) ?_
    refine E_iconst (x := 2) rfl (by decide) ?_
    have e8 : Ev ab_Z0 1 115 [.int a3, .int 0, .int 2] w0 (some (.int 1), w0) := by
      refine Ef.in (md := mX5_isFrom) (L := [some (.int a3), some (.int 0), some (.int 2)]) rfl (Nat.le_of_ble_eq_true rfl) rfl ?_
      refine E_iload_n rfl rfl ?_
      refine E_iload_n rfl rfl ?_
      refine E_ic (t := 14) (b := false) rfl rfl ((cn_lt (rfl : (a3).toInt = (a3).toInt) (by decide : (0 : Int32).toInt = 0)).trans (decide_eq_false (by omega))) ?_
      refine E_iload_n rfl rfl ?_
      refine E_iload_n rfl rfl ?_
      refine E_ic (t := 14) (b := false) rfl rfl ((cn_gt (rfl : (a3).toInt = (a3).toInt) (by decide : (2 : Int32).toInt = 2)).trans (decide_eq_false (by omega))) ?_
      refine E_iconst (x := 1) rfl (by decide) ?_
      refine E_goto (t := 15) rfl rfl ?_
      exact E_iret rfl rfl
    refine E_callS (v := some (.int 1)) (As := [.int a3, .int 0, .int 2]) (r0 := [.int 20, .int a2, .int 3, .ref 0]) (cs2 := w0) rfl rfl rfl (Nat.le_of_ble_eq_true rfl) rfl e8 (by decide) rfl ?_
    refine E_if (t := 18) (b := true) rfl rfl (by decide) ?_
    refine E_iconst (x := 0) rfl (by decide) ?_
    have e22 : Ev ab_Z0 3 120 [.ref 0, .int 3, .int a2, .int 20, .int 0] w0 (some (.int 3), w0) := by
      refine Ef.in (md := mX5_whyNoTwos) (L := [some (.ref 0), some (.int 3), some (.int a2), some (.int 20), some (.int 0), none]) rfl (Nat.le_of_ble_eq_true rfl) rfl ?_
      refine E_aload_n rfl rfl ?_
      refine E_iload_n rfl rfl ?_
      refine E_callV (v := some (.int 3)) (As := [.ref 0, .int 3]) (r0 := []) (cs2 := w0) rfl rfl rfl (Nat.le_of_ble_eq_true rfl) rfl rfl c44_X5_whyNoRow (by decide) rfl ?_
      refine E_istore (L2 := [some (.ref 0), some (.int 3), some (.int a2), some (.int 20), some (.int 0), some (.int 3)]) rfl rfl ?_
      refine E_iload rfl rfl ?_
      refine E_if (t := 15) (b := false) rfl rfl (by decide) ?_
      refine E_iload rfl rfl ?_
      exact E_iret rfl rfl
    refine E_callV (v := some (.int 3)) (As := [.ref 0, .int 3, .int a2, .int 20, .int 0]) (r0 := []) (cs2 := w0) rfl rfl rfl (Nat.le_of_ble_eq_true rfl) rfl rfl e22 (by decide) rfl ?_
    refine E_istore (L2 := [some (.ref 0), some (.int 3), some (.int a2), some (.int a3), some (.int 3)]) rfl rfl ?_
    refine E_iload rfl rfl ?_
    refine E_if (t := 48) (b := true) rfl rfl (by decide) ?_
    refine E_iload rfl rfl ?_
    refine E_if (t := 60) (b := false) rfl rfl (by decide) ?_
    refine E_aload_n rfl rfl ?_
    refine E_iload rfl rfl ?_
    refine E_callV (v := some (.int (-3))) (As := [.ref 0, .int 3]) (r0 := []) (cs2 := (w0.set 48 (.inl [0, 0, 0, 1, 0, 0, 0, 0]))) rfl rfl rfl (Nat.le_of_ble_eq_true rfl) rfl rfl c32_X5_refuse (by decide) (by simp only [List.length_set]) ?_
    exact E_iret rfl rfl, by
    refine Ef.in (md := mX6_behind) (L := [some (.ref 65), some (.int 3), some (.int a2), some (.int a3), none, none]) rfl (Nat.le_of_ble_eq_true rfl) rfl ?_
    refine E_aload_n rfl rfl ?_
    refine E_iload_n rfl rfl ?_
    refine E_iload_n rfl rfl ?_
    refine E_bipush (x := 20) rfl (by decide) ?_
    refine E_iload_n rfl rfl ?_
    refine E_if (t := 18) (b := false) rfl rfl ((cn_lt (rfl : (a3).toInt = (a3).toInt) (by decide : (0 : Int32).toInt = 0)).trans (decide_eq_false (by omega))) ?_
    refine E_iload_n rfl rfl ?_
    refine E_iconst (x := 2) rfl (by decide) ?_
    refine E_ic (t := 18) (b := false) rfl rfl ((cn_gt (rfl : (a3).toInt = (a3).toInt) (by decide : (2 : Int32).toInt = 2)).trans (decide_eq_false (by omega))) ?_
    refine E_iconst (x := 1) rfl (by decide) ?_
    refine E_goto (t := 19) rfl rfl ?_
    have e12 : Ev ab_Z0 3 186 [.ref 65, .int 3, .int a2, .int 20, .int 1] (w0.set 48 (.inl [0, 0, 0, 1, 0, 0, 0, 0])) (some (.int (-3)), (w0.set 48 (.inl [0, 0, 0, 1, 0, 0, 0, 0]))) := by
      refine Ef.in (md := mX6_barsOf) (L := [some (.ref 65), some (.int 3), some (.int a2), some (.int 20), some (.int 1), none]) rfl (Nat.le_of_ble_eq_true rfl) rfl ?_
      refine E_aload_n rfl rfl ?_
      refine E_iload_n rfl rfl ?_
      refine E_callV (v := some (.int (-3))) (As := [.ref 65, .int 3]) (r0 := []) (cs2 := (w0.set 48 (.inl [0, 0, 0, 1, 0, 0, 0, 0]))) rfl rfl rfl (Nat.le_of_ble_eq_true rfl) rfl rfl c214_X6_wanted (by decide) rfl ?_
      refine E_istore (L2 := [some (.ref 65), some (.int 3), some (.int a2), some (.int 20), some (.int 1), some (.int (-3))]) rfl rfl ?_
      refine E_iload rfl rfl ?_
      refine E_if (t := 17) (b := false) rfl rfl (by decide) ?_
      refine E_iload rfl rfl ?_
      refine E_goto (t := 59) rfl rfl ?_
      exact E_iret rfl rfl
    refine E_callV (v := some (.int (-3))) (As := [.ref 65, .int 3, .int a2, .int 20, .int 1]) (r0 := []) (cs2 := (w0.set 48 (.inl [0, 0, 0, 1, 0, 0, 0, 0]))) rfl rfl rfl (Nat.le_of_ble_eq_true rfl) rfl rfl e12 (by decide) rfl ?_
    refine E_istore (L2 := [some (.ref 65), some (.int 3), some (.int a2), some (.int a3), some (.int (-3)), none]) rfl rfl ?_
    refine E_iload rfl rfl ?_
    refine E_if (t := 36) (b := false) rfl rfl (by decide) ?_
    refine E_aload_n rfl rfl ?_
    refine E_iload rfl rfl ?_
    refine E_callV (v := some (.int (-3))) (As := [.ref 65, .int (-3)]) (r0 := []) (cs2 := ((w0.set 48 (.inl [0, 0, 0, 1, 0, 0, 0, 0])).set 66 (.inl [0, 0, 0, 1, 0, 0, 0, 0]))) rfl rfl rfl (Nat.le_of_ble_eq_true rfl) rfl rfl c35_X6_no (by decide) (by simp only [List.length_set]) ?_
    exact E_iret rfl rfl, (by simp only [List.length_set]; rfl), (by simp only [List.length_set]; rfl), ((ab_szs rfl).trans ((ab_szs rfl).trans rfl)), fun _ => rfl⟩
theorem f_behind_16 (a2 a3 : Int32) (ha3l : (0 : Int) ≤ a3.toInt) (ha3h : a3.toInt ≤ 2) : p1_P 7 104 6 195 [.ref 0, .int 4, .int a2, .int a3] [.ref 65, .int 4, .int a2, .int a3] :=
  ⟨(-3), (w0.set 48 (.inl [0, 0, 0, 1, 0, 0, 0, 0])), ((w0.set 48 (.inl [0, 0, 0, 1, 0, 0, 0, 0])).set 66 (.inl [0, 0, 0, 1, 0, 0, 0, 0])), by
    refine Ef.in (md := mX5_behind) (L := [some (.ref 0), some (.int 4), some (.int a2), some (.int a3), none]) rfl (Nat.le_of_ble_eq_true rfl) rfl ?_
    refine E_aload_n rfl rfl ?_
    refine E_iload_n rfl rfl ?_
    refine E_iload_n rfl rfl ?_
    refine E_bipush (x := 20) rfl (by decide) ?_
    refine E_iload_n rfl rfl ?_
    refine E_iconst (x := 0) rfl (by decide) ?_
    refine E_iconst (x := 2) rfl (by decide) ?_
    have e8 : Ev ab_Z0 1 115 [.int a3, .int 0, .int 2] w0 (some (.int 1), w0) := by
      refine Ef.in (md := mX5_isFrom) (L := [some (.int a3), some (.int 0), some (.int 2)]) rfl (Nat.le_of_ble_eq_true rfl) rfl ?_
      refine E_iload_n rfl rfl ?_
      refine E_iload_n rfl rfl ?_
      refine E_ic (t := 14) (b := false) rfl rfl ((cn_lt (rfl : (a3).toInt = (a3).toInt) (by decide : (0 : Int32).toInt = 0)).trans (decide_eq_false (by omega))) ?_
      refine E_iload_n rfl rfl ?_
      refine E_iload_n rfl rfl ?_
      refine E_ic (t := 14) (b := false) rfl rfl ((cn_gt (rfl : (a3).toInt = (a3).toInt) (by decide : (2 : Int32).toInt = 2)).trans (decide_eq_false (by omega))) ?_
      refine E_iconst (x := 1) rfl (by decide) ?_
      refine E_goto (t := 15) rfl rfl ?_
      exact E_iret rfl rfl
    refine E_callS (v := some (.int 1)) (As := [.int a3, .int 0, .int 2]) (r0 := [.int 20, .int a2, .int 4, .ref 0]) (cs2 := w0) rfl rfl rfl (Nat.le_of_ble_eq_true rfl) rfl e8 (by decide) rfl ?_
    refine E_if (t := 18) (b := true) rfl rfl (by decide) ?_
    refine E_iconst (x := 0) rfl (by decide) ?_
    have e22 : Ev ab_Z0 3 120 [.ref 0, .int 4, .int a2, .int 20, .int 0] w0 (some (.int 3), w0) := by
      refine Ef.in (md := mX5_whyNoTwos) (L := [some (.ref 0), some (.int 4), some (.int a2), some (.int 20), some (.int 0), none]) rfl (Nat.le_of_ble_eq_true rfl) rfl ?_
      refine E_aload_n rfl rfl ?_
      refine E_iload_n rfl rfl ?_
      refine E_callV (v := some (.int 3)) (As := [.ref 0, .int 4]) (r0 := []) (cs2 := w0) rfl rfl rfl (Nat.le_of_ble_eq_true rfl) rfl rfl c48_X5_whyNoRow (by decide) rfl ?_
      refine E_istore (L2 := [some (.ref 0), some (.int 4), some (.int a2), some (.int 20), some (.int 0), some (.int 3)]) rfl rfl ?_
      refine E_iload rfl rfl ?_
      refine E_if (t := 15) (b := false) rfl rfl (by decide) ?_
      refine E_iload rfl rfl ?_
      exact E_iret rfl rfl
    refine E_callV (v := some (.int 3)) (As := [.ref 0, .int 4, .int a2, .int 20, .int 0]) (r0 := []) (cs2 := w0) rfl rfl rfl (Nat.le_of_ble_eq_true rfl) rfl rfl e22 (by decide) rfl ?_
    refine E_istore (L2 := [some (.ref 0), some (.int 4), some (.int a2), some (.int a3), some (.int 3)]) rfl rfl ?_
    refine E_iload rfl rfl ?_
    refine E_if (t := 48) (b := true) rfl rfl (by decide) ?_
    refine E_iload rfl rfl ?_
    refine E_if (t := 60) (b := false) rfl rfl (by decide) ?_
    refine E_aload_n rfl rfl ?_
    refine E_iload rfl rfl ?_
    refine E_callV (v := some (.int (-3))) (As := [.ref 0, .int 3]) (r0 := []) (cs2 := (w0.set 48 (.inl [0, 0, 0, 1, 0, 0, 0, 0]))) rfl rfl rfl (Nat.le_of_ble_eq_true rfl) rfl rfl c32_X5_refuse (by decide) (by simp only [List.length_set]) ?_
    exact E_iret rfl rfl, by
    refine Ef.in (md := mX6_behind) (L := [some (.ref 65), some (.int 4), some (.int a2), some (.int a3), none, none]) rfl (Nat.le_of_ble_eq_true rfl) rfl ?_
    refine E_aload_n rfl rfl ?_
    refine E_iload_n rfl rfl ?_
    refine E_iload_n rfl rfl ?_
    refine E_bipush (x := 20) rfl (by decide) ?_
    refine E_iload_n rfl rfl ?_
    refine E_if (t := 18) (b := false) rfl rfl ((cn_lt (rfl : (a3).toInt = (a3).toInt) (by decide : (0 : Int32).toInt = 0)).trans (decide_eq_false (by omega))) ?_
    refine E_iload_n rfl rfl ?_
    refine E_iconst (x := 2) rfl (by decide) ?_
    refine E_ic (t := 18) (b := false) rfl rfl ((cn_gt (rfl : (a3).toInt = (a3).toInt) (by decide : (2 : Int32).toInt = 2)).trans (decide_eq_false (by omega))) ?_
    refine E_iconst (x := 1) rfl (by decide) ?_
    refine E_goto (t := 19) rfl rfl ?_
    have e12 : Ev ab_Z0 3 186 [.ref 65, .int 4, .int a2, .int 20, .int 1] (w0.set 48 (.inl [0, 0, 0, 1, 0, 0, 0, 0])) (some (.int (-3)), (w0.set 48 (.inl [0, 0, 0, 1, 0, 0, 0, 0]))) := by
      refine Ef.in (md := mX6_barsOf) (L := [some (.ref 65), some (.int 4), some (.int a2), some (.int 20), some (.int 1), none]) rfl (Nat.le_of_ble_eq_true rfl) rfl ?_
      refine E_aload_n rfl rfl ?_
      refine E_iload_n rfl rfl ?_
      refine E_callV (v := some (.int (-3))) (As := [.ref 65, .int 4]) (r0 := []) (cs2 := (w0.set 48 (.inl [0, 0, 0, 1, 0, 0, 0, 0]))) rfl rfl rfl (Nat.le_of_ble_eq_true rfl) rfl rfl c217_X6_wanted (by decide) rfl ?_
      refine E_istore (L2 := [some (.ref 65), some (.int 4), some (.int a2), some (.int 20), some (.int 1), some (.int (-3))]) rfl rfl ?_
      refine E_iload rfl rfl ?_
      refine E_if (t := 17) (b := false) rfl rfl (by decide) ?_
      refine E_iload rfl rfl ?_
      refine E_goto (t := 59) rfl rfl ?_
      exact E_iret rfl rfl
    refine E_callV (v := some (.int (-3))) (As := [.ref 65, .int 4, .int a2, .int 20, .int 1]) (r0 := []) (cs2 := (w0.set 48 (.inl [0, 0, 0, 1, 0, 0, 0, 0]))) rfl rfl rfl (Nat.le_of_ble_eq_true rfl) rfl rfl e12 (by decide) rfl ?_
    refine E_istore (L2 := [some (.ref 65), some (.int 4), some (.int a2), some (.int a3), some (.int (-3)), none]) rfl rfl ?_
    refine E_iload rfl rfl ?_
    refine E_if (t := 36) (b := false) rfl rfl (by decide) ?_
    refine E_aload_n rfl rfl ?_
    refine E_iload rfl rfl ?_
    refine E_callV (v := some (.int (-3))) (As := [.ref 65, .int (-3)]) (r0 := []) (cs2 := ((w0.set 48 (.inl [0, 0, 0, 1, 0, 0, 0, 0])).set 66 (.inl [0, 0, 0, 1, 0, 0, 0, 0]))) rfl rfl rfl (Nat.le_of_ble_eq_true rfl) rfl rfl c35_X6_no (by decide) (by simp only [List.length_set]) ?_
    exact E_iret rfl rfl, (by simp only [List.length_set]; rfl), (by simp only [List.length_set]; rfl), ((ab_szs rfl).trans ((ab_szs rfl).trans rfl)), fun _ => rfl⟩
theorem f_behind_17 (a2 a3 : Int32) (ha3l : (0 : Int) ≤ a3.toInt) (ha3h : a3.toInt ≤ 2) : p1_P 7 104 6 195 [.ref 0, .int 5, .int a2, .int a3] [.ref 65, .int 5, .int a2, .int a3] :=
  ⟨(-3), (w0.set 48 (.inl [0, 0, 0, 1, 0, 0, 0, 0])), ((w0.set 48 (.inl [0, 0, 0, 1, 0, 0, 0, 0])).set 66 (.inl [0, 0, 0, 1, 0, 0, 0, 0])), by
    refine Ef.in (md := mX5_behind) (L := [some (.ref 0), some (.int 5), some (.int a2), some (.int a3), none]) rfl (Nat.le_of_ble_eq_true rfl) rfl ?_
    refine E_aload_n rfl rfl ?_
    refine E_iload_n rfl rfl ?_
    refine E_iload_n rfl rfl ?_
    refine E_bipush (x := 20) rfl (by decide) ?_
    refine E_iload_n rfl rfl ?_
    refine E_iconst (x := 0) rfl (by decide) ?_
    refine E_iconst (x := 2) rfl (by decide) ?_
    have e8 : Ev ab_Z0 1 115 [.int a3, .int 0, .int 2] w0 (some (.int 1), w0) := by
      refine Ef.in (md := mX5_isFrom) (L := [some (.int a3), some (.int 0), some (.int 2)]) rfl (Nat.le_of_ble_eq_true rfl) rfl ?_
      refine E_iload_n rfl rfl ?_
      refine E_iload_n rfl rfl ?_
      refine E_ic (t := 14) (b := false) rfl rfl ((cn_lt (rfl : (a3).toInt = (a3).toInt) (by decide : (0 : Int32).toInt = 0)).trans (decide_eq_false (by omega))) ?_
      refine E_iload_n rfl rfl ?_
      refine E_iload_n rfl rfl ?_
      refine E_ic (t := 14) (b := false) rfl rfl ((cn_gt (rfl : (a3).toInt = (a3).toInt) (by decide : (2 : Int32).toInt = 2)).trans (decide_eq_false (by omega))) ?_
      refine E_iconst (x := 1) rfl (by decide) ?_
      refine E_goto (t := 15) rfl rfl ?_
      exact E_iret rfl rfl
    refine E_callS (v := some (.int 1)) (As := [.int a3, .int 0, .int 2]) (r0 := [.int 20, .int a2, .int 5, .ref 0]) (cs2 := w0) rfl rfl rfl (Nat.le_of_ble_eq_true rfl) rfl e8 (by decide) rfl ?_
    refine E_if (t := 18) (b := true) rfl rfl (by decide) ?_
    refine E_iconst (x := 0) rfl (by decide) ?_
    have e22 : Ev ab_Z0 3 120 [.ref 0, .int 5, .int a2, .int 20, .int 0] w0 (some (.int 3), w0) := by
      refine Ef.in (md := mX5_whyNoTwos) (L := [some (.ref 0), some (.int 5), some (.int a2), some (.int 20), some (.int 0), none]) rfl (Nat.le_of_ble_eq_true rfl) rfl ?_
      refine E_aload_n rfl rfl ?_
      refine E_iload_n rfl rfl ?_
      refine E_callV (v := some (.int 3)) (As := [.ref 0, .int 5]) (r0 := []) (cs2 := w0) rfl rfl rfl (Nat.le_of_ble_eq_true rfl) rfl rfl c52_X5_whyNoRow (by decide) rfl ?_
      refine E_istore (L2 := [some (.ref 0), some (.int 5), some (.int a2), some (.int 20), some (.int 0), some (.int 3)]) rfl rfl ?_
      refine E_iload rfl rfl ?_
      refine E_if (t := 15) (b := false) rfl rfl (by decide) ?_
      refine E_iload rfl rfl ?_
      exact E_iret rfl rfl
    refine E_callV (v := some (.int 3)) (As := [.ref 0, .int 5, .int a2, .int 20, .int 0]) (r0 := []) (cs2 := w0) rfl rfl rfl (Nat.le_of_ble_eq_true rfl) rfl rfl e22 (by decide) rfl ?_
    refine E_istore (L2 := [some (.ref 0), some (.int 5), some (.int a2), some (.int a3), some (.int 3)]) rfl rfl ?_
    refine E_iload rfl rfl ?_
    refine E_if (t := 48) (b := true) rfl rfl (by decide) ?_
    refine E_iload rfl rfl ?_
    refine E_if (t := 60) (b := false) rfl rfl (by decide) ?_
    refine E_aload_n rfl rfl ?_
    refine E_iload rfl rfl ?_
    refine E_callV (v := some (.int (-3))) (As := [.ref 0, .int 3]) (r0 := []) (cs2 := (w0.set 48 (.inl [0, 0, 0, 1, 0, 0, 0, 0]))) rfl rfl rfl (Nat.le_of_ble_eq_true rfl) rfl rfl c32_X5_refuse (by decide) (by simp only [List.length_set]) ?_
    exact E_iret rfl rfl, by
    refine Ef.in (md := mX6_behind) (L := [some (.ref 65), some (.int 5), some (.int a2), some (.int a3), none, none]) rfl (Nat.le_of_ble_eq_true rfl) rfl ?_
    refine E_aload_n rfl rfl ?_
    refine E_iload_n rfl rfl ?_
    refine E_iload_n rfl rfl ?_
    refine E_bipush (x := 20) rfl (by decide) ?_
    refine E_iload_n rfl rfl ?_
    refine E_if (t := 18) (b := false) rfl rfl ((cn_lt (rfl : (a3).toInt = (a3).toInt) (by decide : (0 : Int32).toInt = 0)).trans (decide_eq_false (by omega))) ?_
    refine E_iload_n rfl rfl ?_
    refine E_iconst (x := 2) rfl (by decide) ?_
    refine E_ic (t := 18) (b := false) rfl rfl ((cn_gt (rfl : (a3).toInt = (a3).toInt) (by decide : (2 : Int32).toInt = 2)).trans (decide_eq_false (by omega))) ?_
    refine E_iconst (x := 1) rfl (by decide) ?_
    refine E_goto (t := 19) rfl rfl ?_
    have e12 : Ev ab_Z0 3 186 [.ref 65, .int 5, .int a2, .int 20, .int 1] (w0.set 48 (.inl [0, 0, 0, 1, 0, 0, 0, 0])) (some (.int (-3)), (w0.set 48 (.inl [0, 0, 0, 1, 0, 0, 0, 0]))) := by
      refine Ef.in (md := mX6_barsOf) (L := [some (.ref 65), some (.int 5), some (.int a2), some (.int 20), some (.int 1), none]) rfl (Nat.le_of_ble_eq_true rfl) rfl ?_
      refine E_aload_n rfl rfl ?_
      refine E_iload_n rfl rfl ?_
      refine E_callV (v := some (.int (-3))) (As := [.ref 65, .int 5]) (r0 := []) (cs2 := (w0.set 48 (.inl [0, 0, 0, 1, 0, 0, 0, 0]))) rfl rfl rfl (Nat.le_of_ble_eq_true rfl) rfl rfl c220_X6_wanted (by decide) rfl ?_
      refine E_istore (L2 := [some (.ref 65), some (.int 5), some (.int a2), some (.int 20), some (.int 1), some (.int (-3))]) rfl rfl ?_
      refine E_iload rfl rfl ?_
      refine E_if (t := 17) (b := false) rfl rfl (by decide) ?_
      refine E_iload rfl rfl ?_
      refine E_goto (t := 59) rfl rfl ?_
      exact E_iret rfl rfl
    refine E_callV (v := some (.int (-3))) (As := [.ref 65, .int 5, .int a2, .int 20, .int 1]) (r0 := []) (cs2 := (w0.set 48 (.inl [0, 0, 0, 1, 0, 0, 0, 0]))) rfl rfl rfl (Nat.le_of_ble_eq_true rfl) rfl rfl e12 (by decide) rfl ?_
    refine E_istore (L2 := [some (.ref 65), some (.int 5), some (.int a2), some (.int a3), some (.int (-3)), none]) rfl rfl ?_
    refine E_iload rfl rfl ?_
    refine E_if (t := 36) (b := false) rfl rfl (by decide) ?_
    refine E_aload_n rfl rfl ?_
    refine E_iload rfl rfl ?_
    refine E_callV (v := some (.int (-3))) (As := [.ref 65, .int (-3)]) (r0 := []) (cs2 := ((w0.set 48 (.inl [0, 0, 0, 1, 0, 0, 0, 0])).set 66 (.inl [0, 0, 0, 1, 0, 0, 0, 0]))) rfl rfl rfl (Nat.le_of_ble_eq_true rfl) rfl rfl c35_X6_no (by decide) (by simp only [List.length_set]) ?_
    exact E_iret rfl rfl, (by simp only [List.length_set]; rfl), (by simp only [List.length_set]; rfl), ((ab_szs rfl).trans ((ab_szs rfl).trans rfl)), fun _ => rfl⟩
theorem f_behind_18 (a2 a3 : Int32) (ha3l : (0 : Int) ≤ a3.toInt) (ha3h : a3.toInt ≤ 2) : p1_P 7 104 6 195 [.ref 0, .int 6, .int a2, .int a3] [.ref 65, .int 6, .int a2, .int a3] :=
  ⟨(-3), (w0.set 48 (.inl [0, 0, 0, 1, 0, 0, 0, 0])), ((w0.set 48 (.inl [0, 0, 0, 1, 0, 0, 0, 0])).set 66 (.inl [0, 0, 0, 1, 0, 0, 0, 0])), by
    refine Ef.in (md := mX5_behind) (L := [some (.ref 0), some (.int 6), some (.int a2), some (.int a3), none]) rfl (Nat.le_of_ble_eq_true rfl) rfl ?_
    refine E_aload_n rfl rfl ?_
    refine E_iload_n rfl rfl ?_
    refine E_iload_n rfl rfl ?_
    refine E_bipush (x := 20) rfl (by decide) ?_
    refine E_iload_n rfl rfl ?_
    refine E_iconst (x := 0) rfl (by decide) ?_
    refine E_iconst (x := 2) rfl (by decide) ?_
    have e8 : Ev ab_Z0 1 115 [.int a3, .int 0, .int 2] w0 (some (.int 1), w0) := by
      refine Ef.in (md := mX5_isFrom) (L := [some (.int a3), some (.int 0), some (.int 2)]) rfl (Nat.le_of_ble_eq_true rfl) rfl ?_
      refine E_iload_n rfl rfl ?_
      refine E_iload_n rfl rfl ?_
      refine E_ic (t := 14) (b := false) rfl rfl ((cn_lt (rfl : (a3).toInt = (a3).toInt) (by decide : (0 : Int32).toInt = 0)).trans (decide_eq_false (by omega))) ?_
      refine E_iload_n rfl rfl ?_
      refine E_iload_n rfl rfl ?_
      refine E_ic (t := 14) (b := false) rfl rfl ((cn_gt (rfl : (a3).toInt = (a3).toInt) (by decide : (2 : Int32).toInt = 2)).trans (decide_eq_false (by omega))) ?_
      refine E_iconst (x := 1) rfl (by decide) ?_
      refine E_goto (t := 15) rfl rfl ?_
      exact E_iret rfl rfl
    refine E_callS (v := some (.int 1)) (As := [.int a3, .int 0, .int 2]) (r0 := [.int 20, .int a2, .int 6, .ref 0]) (cs2 := w0) rfl rfl rfl (Nat.le_of_ble_eq_true rfl) rfl e8 (by decide) rfl ?_
    refine E_if (t := 18) (b := true) rfl rfl (by decide) ?_
    refine E_iconst (x := 0) rfl (by decide) ?_
    have e22 : Ev ab_Z0 3 120 [.ref 0, .int 6, .int a2, .int 20, .int 0] w0 (some (.int 3), w0) := by
      refine Ef.in (md := mX5_whyNoTwos) (L := [some (.ref 0), some (.int 6), some (.int a2), some (.int 20), some (.int 0), none]) rfl (Nat.le_of_ble_eq_true rfl) rfl ?_
      refine E_aload_n rfl rfl ?_
      refine E_iload_n rfl rfl ?_
      refine E_callV (v := some (.int 3)) (As := [.ref 0, .int 6]) (r0 := []) (cs2 := w0) rfl rfl rfl (Nat.le_of_ble_eq_true rfl) rfl rfl c56_X5_whyNoRow (by decide) rfl ?_
      refine E_istore (L2 := [some (.ref 0), some (.int 6), some (.int a2), some (.int 20), some (.int 0), some (.int 3)]) rfl rfl ?_
      refine E_iload rfl rfl ?_
      refine E_if (t := 15) (b := false) rfl rfl (by decide) ?_
      refine E_iload rfl rfl ?_
      exact E_iret rfl rfl
    refine E_callV (v := some (.int 3)) (As := [.ref 0, .int 6, .int a2, .int 20, .int 0]) (r0 := []) (cs2 := w0) rfl rfl rfl (Nat.le_of_ble_eq_true rfl) rfl rfl e22 (by decide) rfl ?_
    refine E_istore (L2 := [some (.ref 0), some (.int 6), some (.int a2), some (.int a3), some (.int 3)]) rfl rfl ?_
    refine E_iload rfl rfl ?_
    refine E_if (t := 48) (b := true) rfl rfl (by decide) ?_
    refine E_iload rfl rfl ?_
    refine E_if (t := 60) (b := false) rfl rfl (by decide) ?_
    refine E_aload_n rfl rfl ?_
    refine E_iload rfl rfl ?_
    refine E_callV (v := some (.int (-3))) (As := [.ref 0, .int 3]) (r0 := []) (cs2 := (w0.set 48 (.inl [0, 0, 0, 1, 0, 0, 0, 0]))) rfl rfl rfl (Nat.le_of_ble_eq_true rfl) rfl rfl c32_X5_refuse (by decide) (by simp only [List.length_set]) ?_
    exact E_iret rfl rfl, by
    refine Ef.in (md := mX6_behind) (L := [some (.ref 65), some (.int 6), some (.int a2), some (.int a3), none, none]) rfl (Nat.le_of_ble_eq_true rfl) rfl ?_
    refine E_aload_n rfl rfl ?_
    refine E_iload_n rfl rfl ?_
    refine E_iload_n rfl rfl ?_
    refine E_bipush (x := 20) rfl (by decide) ?_
    refine E_iload_n rfl rfl ?_
    refine E_if (t := 18) (b := false) rfl rfl ((cn_lt (rfl : (a3).toInt = (a3).toInt) (by decide : (0 : Int32).toInt = 0)).trans (decide_eq_false (by omega))) ?_
    refine E_iload_n rfl rfl ?_
    refine E_iconst (x := 2) rfl (by decide) ?_
    refine E_ic (t := 18) (b := false) rfl rfl ((cn_gt (rfl : (a3).toInt = (a3).toInt) (by decide : (2 : Int32).toInt = 2)).trans (decide_eq_false (by omega))) ?_
    refine E_iconst (x := 1) rfl (by decide) ?_
    refine E_goto (t := 19) rfl rfl ?_
    have e12 : Ev ab_Z0 3 186 [.ref 65, .int 6, .int a2, .int 20, .int 1] (w0.set 48 (.inl [0, 0, 0, 1, 0, 0, 0, 0])) (some (.int (-3)), (w0.set 48 (.inl [0, 0, 0, 1, 0, 0, 0, 0]))) := by
      refine Ef.in (md := mX6_barsOf) (L := [some (.ref 65), some (.int 6), some (.int a2), some (.int 20), some (.int 1), none]) rfl (Nat.le_of_ble_eq_true rfl) rfl ?_
      refine E_aload_n rfl rfl ?_
      refine E_iload_n rfl rfl ?_
      refine E_callV (v := some (.int (-3))) (As := [.ref 65, .int 6]) (r0 := []) (cs2 := (w0.set 48 (.inl [0, 0, 0, 1, 0, 0, 0, 0]))) rfl rfl rfl (Nat.le_of_ble_eq_true rfl) rfl rfl c223_X6_wanted (by decide) rfl ?_
      refine E_istore (L2 := [some (.ref 65), some (.int 6), some (.int a2), some (.int 20), some (.int 1), some (.int (-3))]) rfl rfl ?_
      refine E_iload rfl rfl ?_
      refine E_if (t := 17) (b := false) rfl rfl (by decide) ?_
      refine E_iload rfl rfl ?_
      refine E_goto (t := 59) rfl rfl ?_
      exact E_iret rfl rfl
    refine E_callV (v := some (.int (-3))) (As := [.ref 65, .int 6, .int a2, .int 20, .int 1]) (r0 := []) (cs2 := (w0.set 48 (.inl [0, 0, 0, 1, 0, 0, 0, 0]))) rfl rfl rfl (Nat.le_of_ble_eq_true rfl) rfl rfl e12 (by decide) rfl ?_
    refine E_istore (L2 := [some (.ref 65), some (.int 6), some (.int a2), some (.int a3), some (.int (-3)), none]) rfl rfl ?_
    refine E_iload rfl rfl ?_
    refine E_if (t := 36) (b := false) rfl rfl (by decide) ?_
    refine E_aload_n rfl rfl ?_
    refine E_iload rfl rfl ?_
    refine E_callV (v := some (.int (-3))) (As := [.ref 65, .int (-3)]) (r0 := []) (cs2 := ((w0.set 48 (.inl [0, 0, 0, 1, 0, 0, 0, 0])).set 66 (.inl [0, 0, 0, 1, 0, 0, 0, 0]))) rfl rfl rfl (Nat.le_of_ble_eq_true rfl) rfl rfl c35_X6_no (by decide) (by simp only [List.length_set]) ?_
    exact E_iret rfl rfl, (by simp only [List.length_set]; rfl), (by simp only [List.length_set]; rfl), ((ab_szs rfl).trans ((ab_szs rfl).trans rfl)), fun _ => rfl⟩
theorem f_behind_19 (a2 a3 : Int32) (ha3l : (0 : Int) ≤ a3.toInt) (ha3h : a3.toInt ≤ 2) : p1_P 7 104 6 195 [.ref 0, .int 7, .int a2, .int a3] [.ref 65, .int 7, .int a2, .int a3] :=
  ⟨(-3), (w0.set 48 (.inl [0, 0, 0, 1, 0, 0, 0, 0])), ((w0.set 48 (.inl [0, 0, 0, 1, 0, 0, 0, 0])).set 66 (.inl [0, 0, 0, 1, 0, 0, 0, 0])), by
    refine Ef.in (md := mX5_behind) (L := [some (.ref 0), some (.int 7), some (.int a2), some (.int a3), none]) rfl (Nat.le_of_ble_eq_true rfl) rfl ?_
    refine E_aload_n rfl rfl ?_
    refine E_iload_n rfl rfl ?_
    refine E_iload_n rfl rfl ?_
    refine E_bipush (x := 20) rfl (by decide) ?_
    refine E_iload_n rfl rfl ?_
    refine E_iconst (x := 0) rfl (by decide) ?_
    refine E_iconst (x := 2) rfl (by decide) ?_
    have e8 : Ev ab_Z0 1 115 [.int a3, .int 0, .int 2] w0 (some (.int 1), w0) := by
      refine Ef.in (md := mX5_isFrom) (L := [some (.int a3), some (.int 0), some (.int 2)]) rfl (Nat.le_of_ble_eq_true rfl) rfl ?_
      refine E_iload_n rfl rfl ?_
      refine E_iload_n rfl rfl ?_
      refine E_ic (t := 14) (b := false) rfl rfl ((cn_lt (rfl : (a3).toInt = (a3).toInt) (by decide : (0 : Int32).toInt = 0)).trans (decide_eq_false (by omega))) ?_
      refine E_iload_n rfl rfl ?_
      refine E_iload_n rfl rfl ?_
      refine E_ic (t := 14) (b := false) rfl rfl ((cn_gt (rfl : (a3).toInt = (a3).toInt) (by decide : (2 : Int32).toInt = 2)).trans (decide_eq_false (by omega))) ?_
      refine E_iconst (x := 1) rfl (by decide) ?_
      refine E_goto (t := 15) rfl rfl ?_
      exact E_iret rfl rfl
    refine E_callS (v := some (.int 1)) (As := [.int a3, .int 0, .int 2]) (r0 := [.int 20, .int a2, .int 7, .ref 0]) (cs2 := w0) rfl rfl rfl (Nat.le_of_ble_eq_true rfl) rfl e8 (by decide) rfl ?_
    refine E_if (t := 18) (b := true) rfl rfl (by decide) ?_
    refine E_iconst (x := 0) rfl (by decide) ?_
    have e22 : Ev ab_Z0 3 120 [.ref 0, .int 7, .int a2, .int 20, .int 0] w0 (some (.int 3), w0) := by
      refine Ef.in (md := mX5_whyNoTwos) (L := [some (.ref 0), some (.int 7), some (.int a2), some (.int 20), some (.int 0), none]) rfl (Nat.le_of_ble_eq_true rfl) rfl ?_
      refine E_aload_n rfl rfl ?_
      refine E_iload_n rfl rfl ?_
      refine E_callV (v := some (.int 3)) (As := [.ref 0, .int 7]) (r0 := []) (cs2 := w0) rfl rfl rfl (Nat.le_of_ble_eq_true rfl) rfl rfl c60_X5_whyNoRow (by decide) rfl ?_
      refine E_istore (L2 := [some (.ref 0), some (.int 7), some (.int a2), some (.int 20), some (.int 0), some (.int 3)]) rfl rfl ?_
      refine E_iload rfl rfl ?_
      refine E_if (t := 15) (b := false) rfl rfl (by decide) ?_
      refine E_iload rfl rfl ?_
      exact E_iret rfl rfl
    refine E_callV (v := some (.int 3)) (As := [.ref 0, .int 7, .int a2, .int 20, .int 0]) (r0 := []) (cs2 := w0) rfl rfl rfl (Nat.le_of_ble_eq_true rfl) rfl rfl e22 (by decide) rfl ?_
    refine E_istore (L2 := [some (.ref 0), some (.int 7), some (.int a2), some (.int a3), some (.int 3)]) rfl rfl ?_
    refine E_iload rfl rfl ?_
    refine E_if (t := 48) (b := true) rfl rfl (by decide) ?_
    refine E_iload rfl rfl ?_
    refine E_if (t := 60) (b := false) rfl rfl (by decide) ?_
    refine E_aload_n rfl rfl ?_
    refine E_iload rfl rfl ?_
    refine E_callV (v := some (.int (-3))) (As := [.ref 0, .int 3]) (r0 := []) (cs2 := (w0.set 48 (.inl [0, 0, 0, 1, 0, 0, 0, 0]))) rfl rfl rfl (Nat.le_of_ble_eq_true rfl) rfl rfl c32_X5_refuse (by decide) (by simp only [List.length_set]) ?_
    exact E_iret rfl rfl, by
    refine Ef.in (md := mX6_behind) (L := [some (.ref 65), some (.int 7), some (.int a2), some (.int a3), none, none]) rfl (Nat.le_of_ble_eq_true rfl) rfl ?_
    refine E_aload_n rfl rfl ?_
    refine E_iload_n rfl rfl ?_
    refine E_iload_n rfl rfl ?_
    refine E_bipush (x := 20) rfl (by decide) ?_
    refine E_iload_n rfl rfl ?_
    refine E_if (t := 18) (b := false) rfl rfl ((cn_lt (rfl : (a3).toInt = (a3).toInt) (by decide : (0 : Int32).toInt = 0)).trans (decide_eq_false (by omega))) ?_
    refine E_iload_n rfl rfl ?_
    refine E_iconst (x := 2) rfl (by decide) ?_
    refine E_ic (t := 18) (b := false) rfl rfl ((cn_gt (rfl : (a3).toInt = (a3).toInt) (by decide : (2 : Int32).toInt = 2)).trans (decide_eq_false (by omega))) ?_
    refine E_iconst (x := 1) rfl (by decide) ?_
    refine E_goto (t := 19) rfl rfl ?_
    have e12 : Ev ab_Z0 3 186 [.ref 65, .int 7, .int a2, .int 20, .int 1] (w0.set 48 (.inl [0, 0, 0, 1, 0, 0, 0, 0])) (some (.int (-3)), (w0.set 48 (.inl [0, 0, 0, 1, 0, 0, 0, 0]))) := by
      refine Ef.in (md := mX6_barsOf) (L := [some (.ref 65), some (.int 7), some (.int a2), some (.int 20), some (.int 1), none]) rfl (Nat.le_of_ble_eq_true rfl) rfl ?_
      refine E_aload_n rfl rfl ?_
      refine E_iload_n rfl rfl ?_
      refine E_callV (v := some (.int (-3))) (As := [.ref 65, .int 7]) (r0 := []) (cs2 := (w0.set 48 (.inl [0, 0, 0, 1, 0, 0, 0, 0]))) rfl rfl rfl (Nat.le_of_ble_eq_true rfl) rfl rfl c226_X6_wanted (by decide) rfl ?_
      refine E_istore (L2 := [some (.ref 65), some (.int 7), some (.int a2), some (.int 20), some (.int 1), some (.int (-3))]) rfl rfl ?_
      refine E_iload rfl rfl ?_
      refine E_if (t := 17) (b := false) rfl rfl (by decide) ?_
      refine E_iload rfl rfl ?_
      refine E_goto (t := 59) rfl rfl ?_
      exact E_iret rfl rfl
    refine E_callV (v := some (.int (-3))) (As := [.ref 65, .int 7, .int a2, .int 20, .int 1]) (r0 := []) (cs2 := (w0.set 48 (.inl [0, 0, 0, 1, 0, 0, 0, 0]))) rfl rfl rfl (Nat.le_of_ble_eq_true rfl) rfl rfl e12 (by decide) rfl ?_
    refine E_istore (L2 := [some (.ref 65), some (.int 7), some (.int a2), some (.int a3), some (.int (-3)), none]) rfl rfl ?_
    refine E_iload rfl rfl ?_
    refine E_if (t := 36) (b := false) rfl rfl (by decide) ?_
    refine E_aload_n rfl rfl ?_
    refine E_iload rfl rfl ?_
    refine E_callV (v := some (.int (-3))) (As := [.ref 65, .int (-3)]) (r0 := []) (cs2 := ((w0.set 48 (.inl [0, 0, 0, 1, 0, 0, 0, 0])).set 66 (.inl [0, 0, 0, 1, 0, 0, 0, 0]))) rfl rfl rfl (Nat.le_of_ble_eq_true rfl) rfl rfl c35_X6_no (by decide) (by simp only [List.length_set]) ?_
    exact E_iret rfl rfl, (by simp only [List.length_set]; rfl), (by simp only [List.length_set]; rfl), ((ab_szs rfl).trans ((ab_szs rfl).trans rfl)), fun _ => rfl⟩
theorem f_behind_20 (a1 a2 a3 : Int32) (ha1l : (8 : Int) ≤ a1.toInt) (ha3l : (0 : Int) ≤ a3.toInt) (ha3h : a3.toInt ≤ 2) : p1_P 7 104 6 195 [.ref 0, .int a1, .int a2, .int a3] [.ref 65, .int a1, .int a2, .int a3] :=
  ⟨(-1), (w0.set 48 (.inl [0, 1, 0, 0, 0, 0, 0, 0])), ((w0.set 48 (.inl [0, 1, 0, 0, 0, 0, 0, 0])).set 66 (.inl [0, 1, 0, 0, 0, 0, 0, 0])), by
    refine Ef.in (md := mX5_behind) (L := [some (.ref 0), some (.int a1), some (.int a2), some (.int a3), none]) rfl (Nat.le_of_ble_eq_true rfl) rfl ?_
    refine E_aload_n rfl rfl ?_
    refine E_iload_n rfl rfl ?_
    refine E_iload_n rfl rfl ?_
    refine E_bipush (x := 20) rfl (by decide) ?_
    refine E_iload_n rfl rfl ?_
    refine E_iconst (x := 0) rfl (by decide) ?_
    refine E_iconst (x := 2) rfl (by decide) ?_
    have e8 : Ev ab_Z0 1 115 [.int a3, .int 0, .int 2] w0 (some (.int 1), w0) := by
      refine Ef.in (md := mX5_isFrom) (L := [some (.int a3), some (.int 0), some (.int 2)]) rfl (Nat.le_of_ble_eq_true rfl) rfl ?_
      refine E_iload_n rfl rfl ?_
      refine E_iload_n rfl rfl ?_
      refine E_ic (t := 14) (b := false) rfl rfl ((cn_lt (rfl : (a3).toInt = (a3).toInt) (by decide : (0 : Int32).toInt = 0)).trans (decide_eq_false (by omega))) ?_
      refine E_iload_n rfl rfl ?_
      refine E_iload_n rfl rfl ?_
      refine E_ic (t := 14) (b := false) rfl rfl ((cn_gt (rfl : (a3).toInt = (a3).toInt) (by decide : (2 : Int32).toInt = 2)).trans (decide_eq_false (by omega))) ?_
      refine E_iconst (x := 1) rfl (by decide) ?_
      refine E_goto (t := 15) rfl rfl ?_
      exact E_iret rfl rfl
    refine E_callS (v := some (.int 1)) (As := [.int a3, .int 0, .int 2]) (r0 := [.int 20, .int a2, .int a1, .ref 0]) (cs2 := w0) rfl rfl rfl (Nat.le_of_ble_eq_true rfl) rfl e8 (by decide) rfl ?_
    refine E_if (t := 18) (b := true) rfl rfl (by decide) ?_
    refine E_iconst (x := 0) rfl (by decide) ?_
    have e22 : Ev ab_Z0 3 120 [.ref 0, .int a1, .int a2, .int 20, .int 0] w0 (some (.int 1), w0) := by
      refine Ef.in (md := mX5_whyNoTwos) (L := [some (.ref 0), some (.int a1), some (.int a2), some (.int 20), some (.int 0), none]) rfl (Nat.le_of_ble_eq_true rfl) rfl ?_
      refine E_aload_n rfl rfl ?_
      refine E_iload_n rfl rfl ?_
      have e3 : Ev ab_Z0 2 119 [.ref 0, .int a1] w0 (some (.int 1), w0) := by
        refine Ef.in (md := mX5_whyNoRow) (L := [some (.ref 0), some (.int a1)]) rfl (Nat.le_of_ble_eq_true rfl) rfl ?_
        refine E_iload_n rfl rfl ?_
        have e2 : Ev ab_Z0 1 117 [.int a1] w0 (some (.int 0), w0) := by
          refine Ef.in (md := mX5_isShelf) (L := [some (.int a1)]) rfl (Nat.le_of_ble_eq_true rfl) rfl ?_
          refine E_iload_n rfl rfl ?_
          refine E_if (t := 14) (b := false) rfl rfl ((cn_lt (rfl : (a1).toInt = (a1).toInt) (by decide : (0 : Int32).toInt = 0)).trans (decide_eq_false (by omega))) ?_
          refine E_iload_n rfl rfl ?_
          refine E_bipush (x := 8) rfl (by decide) ?_
          refine E_ic (t := 14) (b := true) rfl rfl ((cn_ge (rfl : (a1).toInt = (a1).toInt) (by decide : (8 : Int32).toInt = 8)).trans (decide_eq_true (by omega))) ?_
          refine E_iconst (x := 0) rfl (by decide) ?_
          exact E_iret rfl rfl
        refine E_callS (v := some (.int 0)) (As := [.int a1]) (r0 := []) (cs2 := w0) rfl rfl rfl (Nat.le_of_ble_eq_true rfl) rfl e2 (by decide) rfl ?_
        refine E_if (t := 9) (b := false) rfl rfl (by decide) ?_
        refine E_iconst (x := 1) rfl (by decide) ?_
        exact E_iret rfl rfl
      refine E_callV (v := some (.int 1)) (As := [.ref 0, .int a1]) (r0 := []) (cs2 := w0) rfl rfl rfl (Nat.le_of_ble_eq_true rfl) rfl rfl e3 (by decide) rfl ?_
      refine E_istore (L2 := [some (.ref 0), some (.int a1), some (.int a2), some (.int 20), some (.int 0), some (.int 1)]) rfl rfl ?_
      refine E_iload rfl rfl ?_
      refine E_if (t := 15) (b := false) rfl rfl (by decide) ?_
      refine E_iload rfl rfl ?_
      exact E_iret rfl rfl
    refine E_callV (v := some (.int 1)) (As := [.ref 0, .int a1, .int a2, .int 20, .int 0]) (r0 := []) (cs2 := w0) rfl rfl rfl (Nat.le_of_ble_eq_true rfl) rfl rfl e22 (by decide) rfl ?_
    refine E_istore (L2 := [some (.ref 0), some (.int a1), some (.int a2), some (.int a3), some (.int 1)]) rfl rfl ?_
    refine E_iload rfl rfl ?_
    refine E_if (t := 48) (b := true) rfl rfl (by decide) ?_
    refine E_iload rfl rfl ?_
    refine E_if (t := 60) (b := false) rfl rfl (by decide) ?_
    refine E_aload_n rfl rfl ?_
    refine E_iload rfl rfl ?_
    refine E_callV (v := some (.int (-1))) (As := [.ref 0, .int 1]) (r0 := []) (cs2 := (w0.set 48 (.inl [0, 1, 0, 0, 0, 0, 0, 0]))) rfl rfl rfl (Nat.le_of_ble_eq_true rfl) rfl rfl c1_X5_refuse (by decide) (by simp only [List.length_set]) ?_
    exact E_iret rfl rfl, by
    refine Ef.in (md := mX6_behind) (L := [some (.ref 65), some (.int a1), some (.int a2), some (.int a3), none, none]) rfl (Nat.le_of_ble_eq_true rfl) rfl ?_
    refine E_aload_n rfl rfl ?_
    refine E_iload_n rfl rfl ?_
    refine E_iload_n rfl rfl ?_
    refine E_bipush (x := 20) rfl (by decide) ?_
    refine E_iload_n rfl rfl ?_
    refine E_if (t := 18) (b := false) rfl rfl ((cn_lt (rfl : (a3).toInt = (a3).toInt) (by decide : (0 : Int32).toInt = 0)).trans (decide_eq_false (by omega))) ?_
    refine E_iload_n rfl rfl ?_
    refine E_iconst (x := 2) rfl (by decide) ?_
    refine E_ic (t := 18) (b := false) rfl rfl ((cn_gt (rfl : (a3).toInt = (a3).toInt) (by decide : (2 : Int32).toInt = 2)).trans (decide_eq_false (by omega))) ?_
    refine E_iconst (x := 1) rfl (by decide) ?_
    refine E_goto (t := 19) rfl rfl ?_
    have e12 : Ev ab_Z0 3 186 [.ref 65, .int a1, .int a2, .int 20, .int 1] (w0.set 48 (.inl [0, 1, 0, 0, 0, 0, 0, 0])) (some (.int (-1)), (w0.set 48 (.inl [0, 1, 0, 0, 0, 0, 0, 0]))) := by
      refine Ef.in (md := mX6_barsOf) (L := [some (.ref 65), some (.int a1), some (.int a2), some (.int 20), some (.int 1), none]) rfl (Nat.le_of_ble_eq_true rfl) rfl ?_
      refine E_aload_n rfl rfl ?_
      refine E_iload_n rfl rfl ?_
      have e3 : Ev ab_Z0 2 142 [.ref 65, .int a1] (w0.set 48 (.inl [0, 1, 0, 0, 0, 0, 0, 0])) (some (.int (-1)), (w0.set 48 (.inl [0, 1, 0, 0, 0, 0, 0, 0]))) := by
        refine Ef.in (md := mX6_wanted) (L := [some (.ref 65), some (.int a1)]) rfl (Nat.le_of_ble_eq_true rfl) rfl ?_
        refine E_aload_n rfl rfl ?_
        refine E_iload_n rfl rfl ?_
        have e3 : Ev ab_Z0 1 131 [.ref 65, .int a1] (w0.set 48 (.inl [0, 1, 0, 0, 0, 0, 0, 0])) (some (.int 0), (w0.set 48 (.inl [0, 1, 0, 0, 0, 0, 0, 0]))) := by
          refine Ef.in (md := mX6_isShelf) (L := [some (.ref 65), some (.int a1)]) rfl (Nat.le_of_ble_eq_true rfl) rfl ?_
          refine E_iload_n rfl rfl ?_
          refine E_if (t := 14) (b := false) rfl rfl ((cn_lt (rfl : (a1).toInt = (a1).toInt) (by decide : (0 : Int32).toInt = 0)).trans (decide_eq_false (by omega))) ?_
          refine E_iload_n rfl rfl ?_
          refine E_bipush (x := 8) rfl (by decide) ?_
          refine E_ic (t := 14) (b := true) rfl rfl ((cn_ge (rfl : (a1).toInt = (a1).toInt) (by decide : (8 : Int32).toInt = 8)).trans (decide_eq_true (by omega))) ?_
          refine E_iconst (x := 0) rfl (by decide) ?_
          exact E_iret rfl rfl
        refine E_callV (v := some (.int 0)) (As := [.ref 65, .int a1]) (r0 := []) (cs2 := (w0.set 48 (.inl [0, 1, 0, 0, 0, 0, 0, 0]))) rfl rfl rfl (Nat.le_of_ble_eq_true rfl) rfl rfl e3 (by decide) rfl ?_
        refine E_if (t := 12) (b := false) rfl rfl (by decide) ?_
        refine E_iconst (x := (-1)) rfl (by decide) ?_
        refine E_goto (t := 42) rfl rfl ?_
        exact E_iret rfl rfl
      refine E_callV (v := some (.int (-1))) (As := [.ref 65, .int a1]) (r0 := []) (cs2 := (w0.set 48 (.inl [0, 1, 0, 0, 0, 0, 0, 0]))) rfl rfl rfl (Nat.le_of_ble_eq_true rfl) rfl rfl e3 (by decide) rfl ?_
      refine E_istore (L2 := [some (.ref 65), some (.int a1), some (.int a2), some (.int 20), some (.int 1), some (.int (-1))]) rfl rfl ?_
      refine E_iload rfl rfl ?_
      refine E_if (t := 17) (b := false) rfl rfl (by decide) ?_
      refine E_iload rfl rfl ?_
      refine E_goto (t := 59) rfl rfl ?_
      exact E_iret rfl rfl
    refine E_callV (v := some (.int (-1))) (As := [.ref 65, .int a1, .int a2, .int 20, .int 1]) (r0 := []) (cs2 := (w0.set 48 (.inl [0, 1, 0, 0, 0, 0, 0, 0]))) rfl rfl rfl (Nat.le_of_ble_eq_true rfl) rfl rfl e12 (by decide) rfl ?_
    refine E_istore (L2 := [some (.ref 65), some (.int a1), some (.int a2), some (.int a3), some (.int (-1)), none]) rfl rfl ?_
    refine E_iload rfl rfl ?_
    refine E_if (t := 36) (b := false) rfl rfl (by decide) ?_
    refine E_aload_n rfl rfl ?_
    refine E_iload rfl rfl ?_
    refine E_callV (v := some (.int (-1))) (As := [.ref 65, .int (-1)]) (r0 := []) (cs2 := ((w0.set 48 (.inl [0, 1, 0, 0, 0, 0, 0, 0])).set 66 (.inl [0, 1, 0, 0, 0, 0, 0, 0]))) rfl rfl rfl (Nat.le_of_ble_eq_true rfl) rfl rfl c3_X6_no (by decide) (by simp only [List.length_set]) ?_
    exact E_iret rfl rfl, (by simp only [List.length_set]; rfl), (by simp only [List.length_set]; rfl), ((ab_szs rfl).trans ((ab_szs rfl).trans rfl)), fun _ => rfl⟩
theorem f_behind_21 (a1 a2 a3 : Int32) (ha1h : a1.toInt ≤ -1) (ha3l : (3 : Int) ≤ a3.toInt) : p1_P 7 104 6 195 [.ref 0, .int a1, .int a2, .int a3] [.ref 65, .int a1, .int a2, .int a3] :=
  ⟨(-1), (w0.set 48 (.inl [0, 1, 0, 0, 0, 0, 0, 0])), ((w0.set 48 (.inl [0, 1, 0, 0, 0, 0, 0, 0])).set 66 (.inl [0, 1, 0, 0, 0, 0, 0, 0])), by
    refine Ef.in (md := mX5_behind) (L := [some (.ref 0), some (.int a1), some (.int a2), some (.int a3), none]) rfl (Nat.le_of_ble_eq_true rfl) rfl ?_
    refine E_aload_n rfl rfl ?_
    refine E_iload_n rfl rfl ?_
    refine E_iload_n rfl rfl ?_
    refine E_bipush (x := 20) rfl (by decide) ?_
    refine E_iload_n rfl rfl ?_
    refine E_iconst (x := 0) rfl (by decide) ?_
    refine E_iconst (x := 2) rfl (by decide) ?_
    have e8 : Ev ab_Z0 1 115 [.int a3, .int 0, .int 2] w0 (some (.int 0), w0) := by
      refine Ef.in (md := mX5_isFrom) (L := [some (.int a3), some (.int 0), some (.int 2)]) rfl (Nat.le_of_ble_eq_true rfl) rfl ?_
      refine E_iload_n rfl rfl ?_
      refine E_iload_n rfl rfl ?_
      refine E_ic (t := 14) (b := false) rfl rfl ((cn_lt (rfl : (a3).toInt = (a3).toInt) (by decide : (0 : Int32).toInt = 0)).trans (decide_eq_false (by omega))) ?_
      refine E_iload_n rfl rfl ?_
      refine E_iload_n rfl rfl ?_
      refine E_ic (t := 14) (b := true) rfl rfl ((cn_gt (rfl : (a3).toInt = (a3).toInt) (by decide : (2 : Int32).toInt = 2)).trans (decide_eq_true (by omega))) ?_
      refine E_iconst (x := 0) rfl (by decide) ?_
      exact E_iret rfl rfl
    refine E_callS (v := some (.int 0)) (As := [.int a3, .int 0, .int 2]) (r0 := [.int 20, .int a2, .int a1, .ref 0]) (cs2 := w0) rfl rfl rfl (Nat.le_of_ble_eq_true rfl) rfl e8 (by decide) rfl ?_
    refine E_if (t := 18) (b := false) rfl rfl (by decide) ?_
    refine E_iconst (x := 1) rfl (by decide) ?_
    refine E_goto (t := 19) rfl rfl ?_
    have e22 : Ev ab_Z0 3 120 [.ref 0, .int a1, .int a2, .int 20, .int 1] w0 (some (.int 1), w0) := by
      refine Ef.in (md := mX5_whyNoTwos) (L := [some (.ref 0), some (.int a1), some (.int a2), some (.int 20), some (.int 1), none]) rfl (Nat.le_of_ble_eq_true rfl) rfl ?_
      refine E_aload_n rfl rfl ?_
      refine E_iload_n rfl rfl ?_
      have e3 : Ev ab_Z0 2 119 [.ref 0, .int a1] w0 (some (.int 1), w0) := by
        refine Ef.in (md := mX5_whyNoRow) (L := [some (.ref 0), some (.int a1)]) rfl (Nat.le_of_ble_eq_true rfl) rfl ?_
        refine E_iload_n rfl rfl ?_
        have e2 : Ev ab_Z0 1 117 [.int a1] w0 (some (.int 0), w0) := by
          refine Ef.in (md := mX5_isShelf) (L := [some (.int a1)]) rfl (Nat.le_of_ble_eq_true rfl) rfl ?_
          refine E_iload_n rfl rfl ?_
          refine E_if (t := 14) (b := true) rfl rfl ((cn_lt (rfl : (a1).toInt = (a1).toInt) (by decide : (0 : Int32).toInt = 0)).trans (decide_eq_true (by omega))) ?_
          refine E_iconst (x := 0) rfl (by decide) ?_
          exact E_iret rfl rfl
        refine E_callS (v := some (.int 0)) (As := [.int a1]) (r0 := []) (cs2 := w0) rfl rfl rfl (Nat.le_of_ble_eq_true rfl) rfl e2 (by decide) rfl ?_
        refine E_if (t := 9) (b := false) rfl rfl (by decide) ?_
        refine E_iconst (x := 1) rfl (by decide) ?_
        exact E_iret rfl rfl
      refine E_callV (v := some (.int 1)) (As := [.ref 0, .int a1]) (r0 := []) (cs2 := w0) rfl rfl rfl (Nat.le_of_ble_eq_true rfl) rfl rfl e3 (by decide) rfl ?_
      refine E_istore (L2 := [some (.ref 0), some (.int a1), some (.int a2), some (.int 20), some (.int 1), some (.int 1)]) rfl rfl ?_
      refine E_iload rfl rfl ?_
      refine E_if (t := 15) (b := false) rfl rfl (by decide) ?_
      refine E_iload rfl rfl ?_
      exact E_iret rfl rfl
    refine E_callV (v := some (.int 1)) (As := [.ref 0, .int a1, .int a2, .int 20, .int 1]) (r0 := []) (cs2 := w0) rfl rfl rfl (Nat.le_of_ble_eq_true rfl) rfl rfl e22 (by decide) rfl ?_
    refine E_istore (L2 := [some (.ref 0), some (.int a1), some (.int a2), some (.int a3), some (.int 1)]) rfl rfl ?_
    refine E_iload rfl rfl ?_
    refine E_if (t := 48) (b := true) rfl rfl (by decide) ?_
    refine E_iload rfl rfl ?_
    refine E_if (t := 60) (b := false) rfl rfl (by decide) ?_
    refine E_aload_n rfl rfl ?_
    refine E_iload rfl rfl ?_
    refine E_callV (v := some (.int (-1))) (As := [.ref 0, .int 1]) (r0 := []) (cs2 := (w0.set 48 (.inl [0, 1, 0, 0, 0, 0, 0, 0]))) rfl rfl rfl (Nat.le_of_ble_eq_true rfl) rfl rfl c1_X5_refuse (by decide) (by simp only [List.length_set]) ?_
    exact E_iret rfl rfl, by
    refine Ef.in (md := mX6_behind) (L := [some (.ref 65), some (.int a1), some (.int a2), some (.int a3), none, none]) rfl (Nat.le_of_ble_eq_true rfl) rfl ?_
    refine E_aload_n rfl rfl ?_
    refine E_iload_n rfl rfl ?_
    refine E_iload_n rfl rfl ?_
    refine E_bipush (x := 20) rfl (by decide) ?_
    refine E_iload_n rfl rfl ?_
    refine E_if (t := 18) (b := false) rfl rfl ((cn_lt (rfl : (a3).toInt = (a3).toInt) (by decide : (0 : Int32).toInt = 0)).trans (decide_eq_false (by omega))) ?_
    refine E_iload_n rfl rfl ?_
    refine E_iconst (x := 2) rfl (by decide) ?_
    refine E_ic (t := 18) (b := true) rfl rfl ((cn_gt (rfl : (a3).toInt = (a3).toInt) (by decide : (2 : Int32).toInt = 2)).trans (decide_eq_true (by omega))) ?_
    refine E_iconst (x := 0) rfl (by decide) ?_
    have e11 : Ev ab_Z0 3 186 [.ref 65, .int a1, .int a2, .int 20, .int 0] (w0.set 48 (.inl [0, 1, 0, 0, 0, 0, 0, 0])) (some (.int (-1)), (w0.set 48 (.inl [0, 1, 0, 0, 0, 0, 0, 0]))) := by
      refine Ef.in (md := mX6_barsOf) (L := [some (.ref 65), some (.int a1), some (.int a2), some (.int 20), some (.int 0), none]) rfl (Nat.le_of_ble_eq_true rfl) rfl ?_
      refine E_aload_n rfl rfl ?_
      refine E_iload_n rfl rfl ?_
      have e3 : Ev ab_Z0 2 142 [.ref 65, .int a1] (w0.set 48 (.inl [0, 1, 0, 0, 0, 0, 0, 0])) (some (.int (-1)), (w0.set 48 (.inl [0, 1, 0, 0, 0, 0, 0, 0]))) := by
        refine Ef.in (md := mX6_wanted) (L := [some (.ref 65), some (.int a1)]) rfl (Nat.le_of_ble_eq_true rfl) rfl ?_
        refine E_aload_n rfl rfl ?_
        refine E_iload_n rfl rfl ?_
        have e3 : Ev ab_Z0 1 131 [.ref 65, .int a1] (w0.set 48 (.inl [0, 1, 0, 0, 0, 0, 0, 0])) (some (.int 0), (w0.set 48 (.inl [0, 1, 0, 0, 0, 0, 0, 0]))) := by
          refine Ef.in (md := mX6_isShelf) (L := [some (.ref 65), some (.int a1)]) rfl (Nat.le_of_ble_eq_true rfl) rfl ?_
          refine E_iload_n rfl rfl ?_
          refine E_if (t := 14) (b := true) rfl rfl ((cn_lt (rfl : (a1).toInt = (a1).toInt) (by decide : (0 : Int32).toInt = 0)).trans (decide_eq_true (by omega))) ?_
          refine E_iconst (x := 0) rfl (by decide) ?_
          exact E_iret rfl rfl
        refine E_callV (v := some (.int 0)) (As := [.ref 65, .int a1]) (r0 := []) (cs2 := (w0.set 48 (.inl [0, 1, 0, 0, 0, 0, 0, 0]))) rfl rfl rfl (Nat.le_of_ble_eq_true rfl) rfl rfl e3 (by decide) rfl ?_
        refine E_if (t := 12) (b := false) rfl rfl (by decide) ?_
        refine E_iconst (x := (-1)) rfl (by decide) ?_
        refine E_goto (t := 42) rfl rfl ?_
        exact E_iret rfl rfl
      refine E_callV (v := some (.int (-1))) (As := [.ref 65, .int a1]) (r0 := []) (cs2 := (w0.set 48 (.inl [0, 1, 0, 0, 0, 0, 0, 0]))) rfl rfl rfl (Nat.le_of_ble_eq_true rfl) rfl rfl e3 (by decide) rfl ?_
      refine E_istore (L2 := [some (.ref 65), some (.int a1), some (.int a2), some (.int 20), some (.int 0), some (.int (-1))]) rfl rfl ?_
      refine E_iload rfl rfl ?_
      refine E_if (t := 17) (b := false) rfl rfl (by decide) ?_
      refine E_iload rfl rfl ?_
      refine E_goto (t := 59) rfl rfl ?_
      exact E_iret rfl rfl
    refine E_callV (v := some (.int (-1))) (As := [.ref 65, .int a1, .int a2, .int 20, .int 0]) (r0 := []) (cs2 := (w0.set 48 (.inl [0, 1, 0, 0, 0, 0, 0, 0]))) rfl rfl rfl (Nat.le_of_ble_eq_true rfl) rfl rfl e11 (by decide) rfl ?_
    refine E_istore (L2 := [some (.ref 65), some (.int a1), some (.int a2), some (.int a3), some (.int (-1)), none]) rfl rfl ?_
    refine E_iload rfl rfl ?_
    refine E_if (t := 36) (b := false) rfl rfl (by decide) ?_
    refine E_aload_n rfl rfl ?_
    refine E_iload rfl rfl ?_
    refine E_callV (v := some (.int (-1))) (As := [.ref 65, .int (-1)]) (r0 := []) (cs2 := ((w0.set 48 (.inl [0, 1, 0, 0, 0, 0, 0, 0])).set 66 (.inl [0, 1, 0, 0, 0, 0, 0, 0]))) rfl rfl rfl (Nat.le_of_ble_eq_true rfl) rfl rfl c3_X6_no (by decide) (by simp only [List.length_set]) ?_
    exact E_iret rfl rfl, (by simp only [List.length_set]; rfl), (by simp only [List.length_set]; rfl), ((ab_szs rfl).trans ((ab_szs rfl).trans rfl)), fun _ => rfl⟩
theorem f_behind_22 (a2 a3 : Int32) (ha3l : (3 : Int) ≤ a3.toInt) : p1_P 7 104 6 195 [.ref 0, .int 0, .int a2, .int a3] [.ref 65, .int 0, .int a2, .int a3] :=
  ⟨(-3), (w0.set 48 (.inl [0, 0, 0, 1, 0, 0, 0, 0])), ((w0.set 48 (.inl [0, 0, 0, 1, 0, 0, 0, 0])).set 66 (.inl [0, 0, 0, 1, 0, 0, 0, 0])), by
    refine Ef.in (md := mX5_behind) (L := [some (.ref 0), some (.int 0), some (.int a2), some (.int a3), none]) rfl (Nat.le_of_ble_eq_true rfl) rfl ?_
    refine E_aload_n rfl rfl ?_
    refine E_iload_n rfl rfl ?_
    refine E_iload_n rfl rfl ?_
    refine E_bipush (x := 20) rfl (by decide) ?_
    refine E_iload_n rfl rfl ?_
    refine E_iconst (x := 0) rfl (by decide) ?_
    refine E_iconst (x := 2) rfl (by decide) ?_
    have e8 : Ev ab_Z0 1 115 [.int a3, .int 0, .int 2] w0 (some (.int 0), w0) := by
      refine Ef.in (md := mX5_isFrom) (L := [some (.int a3), some (.int 0), some (.int 2)]) rfl (Nat.le_of_ble_eq_true rfl) rfl ?_
      refine E_iload_n rfl rfl ?_
      refine E_iload_n rfl rfl ?_
      refine E_ic (t := 14) (b := false) rfl rfl ((cn_lt (rfl : (a3).toInt = (a3).toInt) (by decide : (0 : Int32).toInt = 0)).trans (decide_eq_false (by omega))) ?_
      refine E_iload_n rfl rfl ?_
      refine E_iload_n rfl rfl ?_
      refine E_ic (t := 14) (b := true) rfl rfl ((cn_gt (rfl : (a3).toInt = (a3).toInt) (by decide : (2 : Int32).toInt = 2)).trans (decide_eq_true (by omega))) ?_
      refine E_iconst (x := 0) rfl (by decide) ?_
      exact E_iret rfl rfl
    refine E_callS (v := some (.int 0)) (As := [.int a3, .int 0, .int 2]) (r0 := [.int 20, .int a2, .int 0, .ref 0]) (cs2 := w0) rfl rfl rfl (Nat.le_of_ble_eq_true rfl) rfl e8 (by decide) rfl ?_
    refine E_if (t := 18) (b := false) rfl rfl (by decide) ?_
    refine E_iconst (x := 1) rfl (by decide) ?_
    refine E_goto (t := 19) rfl rfl ?_
    have e22 : Ev ab_Z0 3 120 [.ref 0, .int 0, .int a2, .int 20, .int 1] w0 (some (.int 3), w0) := by
      refine Ef.in (md := mX5_whyNoTwos) (L := [some (.ref 0), some (.int 0), some (.int a2), some (.int 20), some (.int 1), none]) rfl (Nat.le_of_ble_eq_true rfl) rfl ?_
      refine E_aload_n rfl rfl ?_
      refine E_iload_n rfl rfl ?_
      refine E_callV (v := some (.int 3)) (As := [.ref 0, .int 0]) (r0 := []) (cs2 := w0) rfl rfl rfl (Nat.le_of_ble_eq_true rfl) rfl rfl c29_X5_whyNoRow (by decide) rfl ?_
      refine E_istore (L2 := [some (.ref 0), some (.int 0), some (.int a2), some (.int 20), some (.int 1), some (.int 3)]) rfl rfl ?_
      refine E_iload rfl rfl ?_
      refine E_if (t := 15) (b := false) rfl rfl (by decide) ?_
      refine E_iload rfl rfl ?_
      exact E_iret rfl rfl
    refine E_callV (v := some (.int 3)) (As := [.ref 0, .int 0, .int a2, .int 20, .int 1]) (r0 := []) (cs2 := w0) rfl rfl rfl (Nat.le_of_ble_eq_true rfl) rfl rfl e22 (by decide) rfl ?_
    refine E_istore (L2 := [some (.ref 0), some (.int 0), some (.int a2), some (.int a3), some (.int 3)]) rfl rfl ?_
    refine E_iload rfl rfl ?_
    refine E_if (t := 48) (b := true) rfl rfl (by decide) ?_
    refine E_iload rfl rfl ?_
    refine E_if (t := 60) (b := false) rfl rfl (by decide) ?_
    refine E_aload_n rfl rfl ?_
    refine E_iload rfl rfl ?_
    refine E_callV (v := some (.int (-3))) (As := [.ref 0, .int 3]) (r0 := []) (cs2 := (w0.set 48 (.inl [0, 0, 0, 1, 0, 0, 0, 0]))) rfl rfl rfl (Nat.le_of_ble_eq_true rfl) rfl rfl c32_X5_refuse (by decide) (by simp only [List.length_set]) ?_
    exact E_iret rfl rfl, by
    refine Ef.in (md := mX6_behind) (L := [some (.ref 65), some (.int 0), some (.int a2), some (.int a3), none, none]) rfl (Nat.le_of_ble_eq_true rfl) rfl ?_
    refine E_aload_n rfl rfl ?_
    refine E_iload_n rfl rfl ?_
    refine E_iload_n rfl rfl ?_
    refine E_bipush (x := 20) rfl (by decide) ?_
    refine E_iload_n rfl rfl ?_
    refine E_if (t := 18) (b := false) rfl rfl ((cn_lt (rfl : (a3).toInt = (a3).toInt) (by decide : (0 : Int32).toInt = 0)).trans (decide_eq_false (by omega))) ?_
    refine E_iload_n rfl rfl ?_
    refine E_iconst (x := 2) rfl (by decide) ?_
    refine E_ic (t := 18) (b := true) rfl rfl ((cn_gt (rfl : (a3).toInt = (a3).toInt) (by decide : (2 : Int32).toInt = 2)).trans (decide_eq_true (by omega))) ?_
    refine E_iconst (x := 0) rfl (by decide) ?_
    have e11 : Ev ab_Z0 3 186 [.ref 65, .int 0, .int a2, .int 20, .int 0] (w0.set 48 (.inl [0, 0, 0, 1, 0, 0, 0, 0])) (some (.int (-3)), (w0.set 48 (.inl [0, 0, 0, 1, 0, 0, 0, 0]))) := by
      refine Ef.in (md := mX6_barsOf) (L := [some (.ref 65), some (.int 0), some (.int a2), some (.int 20), some (.int 0), none]) rfl (Nat.le_of_ble_eq_true rfl) rfl ?_
      refine E_aload_n rfl rfl ?_
      refine E_iload_n rfl rfl ?_
      refine E_callV (v := some (.int (-3))) (As := [.ref 65, .int 0]) (r0 := []) (cs2 := (w0.set 48 (.inl [0, 0, 0, 1, 0, 0, 0, 0]))) rfl rfl rfl (Nat.le_of_ble_eq_true rfl) rfl rfl c205_X6_wanted (by decide) rfl ?_
      refine E_istore (L2 := [some (.ref 65), some (.int 0), some (.int a2), some (.int 20), some (.int 0), some (.int (-3))]) rfl rfl ?_
      refine E_iload rfl rfl ?_
      refine E_if (t := 17) (b := false) rfl rfl (by decide) ?_
      refine E_iload rfl rfl ?_
      refine E_goto (t := 59) rfl rfl ?_
      exact E_iret rfl rfl
    refine E_callV (v := some (.int (-3))) (As := [.ref 65, .int 0, .int a2, .int 20, .int 0]) (r0 := []) (cs2 := (w0.set 48 (.inl [0, 0, 0, 1, 0, 0, 0, 0]))) rfl rfl rfl (Nat.le_of_ble_eq_true rfl) rfl rfl e11 (by decide) rfl ?_
    refine E_istore (L2 := [some (.ref 65), some (.int 0), some (.int a2), some (.int a3), some (.int (-3)), none]) rfl rfl ?_
    refine E_iload rfl rfl ?_
    refine E_if (t := 36) (b := false) rfl rfl (by decide) ?_
    refine E_aload_n rfl rfl ?_
    refine E_iload rfl rfl ?_
    refine E_callV (v := some (.int (-3))) (As := [.ref 65, .int (-3)]) (r0 := []) (cs2 := ((w0.set 48 (.inl [0, 0, 0, 1, 0, 0, 0, 0])).set 66 (.inl [0, 0, 0, 1, 0, 0, 0, 0]))) rfl rfl rfl (Nat.le_of_ble_eq_true rfl) rfl rfl c35_X6_no (by decide) (by simp only [List.length_set]) ?_
    exact E_iret rfl rfl, (by simp only [List.length_set]; rfl), (by simp only [List.length_set]; rfl), ((ab_szs rfl).trans ((ab_szs rfl).trans rfl)), fun _ => rfl⟩
theorem f_behind_23 (a2 a3 : Int32) (ha3l : (3 : Int) ≤ a3.toInt) : p1_P 7 104 6 195 [.ref 0, .int 1, .int a2, .int a3] [.ref 65, .int 1, .int a2, .int a3] :=
  ⟨(-3), (w0.set 48 (.inl [0, 0, 0, 1, 0, 0, 0, 0])), ((w0.set 48 (.inl [0, 0, 0, 1, 0, 0, 0, 0])).set 66 (.inl [0, 0, 0, 1, 0, 0, 0, 0])), by
    refine Ef.in (md := mX5_behind) (L := [some (.ref 0), some (.int 1), some (.int a2), some (.int a3), none]) rfl (Nat.le_of_ble_eq_true rfl) rfl ?_
    refine E_aload_n rfl rfl ?_
    refine E_iload_n rfl rfl ?_
    refine E_iload_n rfl rfl ?_
    refine E_bipush (x := 20) rfl (by decide) ?_
    refine E_iload_n rfl rfl ?_
    refine E_iconst (x := 0) rfl (by decide) ?_
    refine E_iconst (x := 2) rfl (by decide) ?_
    have e8 : Ev ab_Z0 1 115 [.int a3, .int 0, .int 2] w0 (some (.int 0), w0) := by
      refine Ef.in (md := mX5_isFrom) (L := [some (.int a3), some (.int 0), some (.int 2)]) rfl (Nat.le_of_ble_eq_true rfl) rfl ?_
      refine E_iload_n rfl rfl ?_
      refine E_iload_n rfl rfl ?_
      refine E_ic (t := 14) (b := false) rfl rfl ((cn_lt (rfl : (a3).toInt = (a3).toInt) (by decide : (0 : Int32).toInt = 0)).trans (decide_eq_false (by omega))) ?_
      refine E_iload_n rfl rfl ?_
      refine E_iload_n rfl rfl ?_
      refine E_ic (t := 14) (b := true) rfl rfl ((cn_gt (rfl : (a3).toInt = (a3).toInt) (by decide : (2 : Int32).toInt = 2)).trans (decide_eq_true (by omega))) ?_
      refine E_iconst (x := 0) rfl (by decide) ?_
      exact E_iret rfl rfl
    refine E_callS (v := some (.int 0)) (As := [.int a3, .int 0, .int 2]) (r0 := [.int 20, .int a2, .int 1, .ref 0]) (cs2 := w0) rfl rfl rfl (Nat.le_of_ble_eq_true rfl) rfl e8 (by decide) rfl ?_
    refine E_if (t := 18) (b := false) rfl rfl (by decide) ?_
    refine E_iconst (x := 1) rfl (by decide) ?_
    refine E_goto (t := 19) rfl rfl ?_
    have e22 : Ev ab_Z0 3 120 [.ref 0, .int 1, .int a2, .int 20, .int 1] w0 (some (.int 3), w0) := by
      refine Ef.in (md := mX5_whyNoTwos) (L := [some (.ref 0), some (.int 1), some (.int a2), some (.int 20), some (.int 1), none]) rfl (Nat.le_of_ble_eq_true rfl) rfl ?_
      refine E_aload_n rfl rfl ?_
      refine E_iload_n rfl rfl ?_
      refine E_callV (v := some (.int 3)) (As := [.ref 0, .int 1]) (r0 := []) (cs2 := w0) rfl rfl rfl (Nat.le_of_ble_eq_true rfl) rfl rfl c36_X5_whyNoRow (by decide) rfl ?_
      refine E_istore (L2 := [some (.ref 0), some (.int 1), some (.int a2), some (.int 20), some (.int 1), some (.int 3)]) rfl rfl ?_
      refine E_iload rfl rfl ?_
      refine E_if (t := 15) (b := false) rfl rfl (by decide) ?_
      refine E_iload rfl rfl ?_
      exact E_iret rfl rfl
    refine E_callV (v := some (.int 3)) (As := [.ref 0, .int 1, .int a2, .int 20, .int 1]) (r0 := []) (cs2 := w0) rfl rfl rfl (Nat.le_of_ble_eq_true rfl) rfl rfl e22 (by decide) rfl ?_
    refine E_istore (L2 := [some (.ref 0), some (.int 1), some (.int a2), some (.int a3), some (.int 3)]) rfl rfl ?_
    refine E_iload rfl rfl ?_
    refine E_if (t := 48) (b := true) rfl rfl (by decide) ?_
    refine E_iload rfl rfl ?_
    refine E_if (t := 60) (b := false) rfl rfl (by decide) ?_
    refine E_aload_n rfl rfl ?_
    refine E_iload rfl rfl ?_
    refine E_callV (v := some (.int (-3))) (As := [.ref 0, .int 3]) (r0 := []) (cs2 := (w0.set 48 (.inl [0, 0, 0, 1, 0, 0, 0, 0]))) rfl rfl rfl (Nat.le_of_ble_eq_true rfl) rfl rfl c32_X5_refuse (by decide) (by simp only [List.length_set]) ?_
    exact E_iret rfl rfl, by
    refine Ef.in (md := mX6_behind) (L := [some (.ref 65), some (.int 1), some (.int a2), some (.int a3), none, none]) rfl (Nat.le_of_ble_eq_true rfl) rfl ?_
    refine E_aload_n rfl rfl ?_
    refine E_iload_n rfl rfl ?_
    refine E_iload_n rfl rfl ?_
    refine E_bipush (x := 20) rfl (by decide) ?_
    refine E_iload_n rfl rfl ?_
    refine E_if (t := 18) (b := false) rfl rfl ((cn_lt (rfl : (a3).toInt = (a3).toInt) (by decide : (0 : Int32).toInt = 0)).trans (decide_eq_false (by omega))) ?_
    refine E_iload_n rfl rfl ?_
    refine E_iconst (x := 2) rfl (by decide) ?_
    refine E_ic (t := 18) (b := true) rfl rfl ((cn_gt (rfl : (a3).toInt = (a3).toInt) (by decide : (2 : Int32).toInt = 2)).trans (decide_eq_true (by omega))) ?_
    refine E_iconst (x := 0) rfl (by decide) ?_
    have e11 : Ev ab_Z0 3 186 [.ref 65, .int 1, .int a2, .int 20, .int 0] (w0.set 48 (.inl [0, 0, 0, 1, 0, 0, 0, 0])) (some (.int (-3)), (w0.set 48 (.inl [0, 0, 0, 1, 0, 0, 0, 0]))) := by
      refine Ef.in (md := mX6_barsOf) (L := [some (.ref 65), some (.int 1), some (.int a2), some (.int 20), some (.int 0), none]) rfl (Nat.le_of_ble_eq_true rfl) rfl ?_
      refine E_aload_n rfl rfl ?_
      refine E_iload_n rfl rfl ?_
      refine E_callV (v := some (.int (-3))) (As := [.ref 65, .int 1]) (r0 := []) (cs2 := (w0.set 48 (.inl [0, 0, 0, 1, 0, 0, 0, 0]))) rfl rfl rfl (Nat.le_of_ble_eq_true rfl) rfl rfl c208_X6_wanted (by decide) rfl ?_
      refine E_istore (L2 := [some (.ref 65), some (.int 1), some (.int a2), some (.int 20), some (.int 0), some (.int (-3))]) rfl rfl ?_
      refine E_iload rfl rfl ?_
      refine E_if (t := 17) (b := false) rfl rfl (by decide) ?_
      refine E_iload rfl rfl ?_
      refine E_goto (t := 59) rfl rfl ?_
      exact E_iret rfl rfl
    refine E_callV (v := some (.int (-3))) (As := [.ref 65, .int 1, .int a2, .int 20, .int 0]) (r0 := []) (cs2 := (w0.set 48 (.inl [0, 0, 0, 1, 0, 0, 0, 0]))) rfl rfl rfl (Nat.le_of_ble_eq_true rfl) rfl rfl e11 (by decide) rfl ?_
    refine E_istore (L2 := [some (.ref 65), some (.int 1), some (.int a2), some (.int a3), some (.int (-3)), none]) rfl rfl ?_
    refine E_iload rfl rfl ?_
    refine E_if (t := 36) (b := false) rfl rfl (by decide) ?_
    refine E_aload_n rfl rfl ?_
    refine E_iload rfl rfl ?_
    refine E_callV (v := some (.int (-3))) (As := [.ref 65, .int (-3)]) (r0 := []) (cs2 := ((w0.set 48 (.inl [0, 0, 0, 1, 0, 0, 0, 0])).set 66 (.inl [0, 0, 0, 1, 0, 0, 0, 0]))) rfl rfl rfl (Nat.le_of_ble_eq_true rfl) rfl rfl c35_X6_no (by decide) (by simp only [List.length_set]) ?_
    exact E_iret rfl rfl, (by simp only [List.length_set]; rfl), (by simp only [List.length_set]; rfl), ((ab_szs rfl).trans ((ab_szs rfl).trans rfl)), fun _ => rfl⟩
theorem f_behind_24 (a2 a3 : Int32) (ha3l : (3 : Int) ≤ a3.toInt) : p1_P 7 104 6 195 [.ref 0, .int 2, .int a2, .int a3] [.ref 65, .int 2, .int a2, .int a3] :=
  ⟨(-3), (w0.set 48 (.inl [0, 0, 0, 1, 0, 0, 0, 0])), ((w0.set 48 (.inl [0, 0, 0, 1, 0, 0, 0, 0])).set 66 (.inl [0, 0, 0, 1, 0, 0, 0, 0])), by
    refine Ef.in (md := mX5_behind) (L := [some (.ref 0), some (.int 2), some (.int a2), some (.int a3), none]) rfl (Nat.le_of_ble_eq_true rfl) rfl ?_
    refine E_aload_n rfl rfl ?_
    refine E_iload_n rfl rfl ?_
    refine E_iload_n rfl rfl ?_
    refine E_bipush (x := 20) rfl (by decide) ?_
    refine E_iload_n rfl rfl ?_
    refine E_iconst (x := 0) rfl (by decide) ?_
    refine E_iconst (x := 2) rfl (by decide) ?_
    have e8 : Ev ab_Z0 1 115 [.int a3, .int 0, .int 2] w0 (some (.int 0), w0) := by
      refine Ef.in (md := mX5_isFrom) (L := [some (.int a3), some (.int 0), some (.int 2)]) rfl (Nat.le_of_ble_eq_true rfl) rfl ?_
      refine E_iload_n rfl rfl ?_
      refine E_iload_n rfl rfl ?_
      refine E_ic (t := 14) (b := false) rfl rfl ((cn_lt (rfl : (a3).toInt = (a3).toInt) (by decide : (0 : Int32).toInt = 0)).trans (decide_eq_false (by omega))) ?_
      refine E_iload_n rfl rfl ?_
      refine E_iload_n rfl rfl ?_
      refine E_ic (t := 14) (b := true) rfl rfl ((cn_gt (rfl : (a3).toInt = (a3).toInt) (by decide : (2 : Int32).toInt = 2)).trans (decide_eq_true (by omega))) ?_
      refine E_iconst (x := 0) rfl (by decide) ?_
      exact E_iret rfl rfl
    refine E_callS (v := some (.int 0)) (As := [.int a3, .int 0, .int 2]) (r0 := [.int 20, .int a2, .int 2, .ref 0]) (cs2 := w0) rfl rfl rfl (Nat.le_of_ble_eq_true rfl) rfl e8 (by decide) rfl ?_
    refine E_if (t := 18) (b := false) rfl rfl (by decide) ?_
    refine E_iconst (x := 1) rfl (by decide) ?_
    refine E_goto (t := 19) rfl rfl ?_
    have e22 : Ev ab_Z0 3 120 [.ref 0, .int 2, .int a2, .int 20, .int 1] w0 (some (.int 3), w0) := by
      refine Ef.in (md := mX5_whyNoTwos) (L := [some (.ref 0), some (.int 2), some (.int a2), some (.int 20), some (.int 1), none]) rfl (Nat.le_of_ble_eq_true rfl) rfl ?_
      refine E_aload_n rfl rfl ?_
      refine E_iload_n rfl rfl ?_
      refine E_callV (v := some (.int 3)) (As := [.ref 0, .int 2]) (r0 := []) (cs2 := w0) rfl rfl rfl (Nat.le_of_ble_eq_true rfl) rfl rfl c40_X5_whyNoRow (by decide) rfl ?_
      refine E_istore (L2 := [some (.ref 0), some (.int 2), some (.int a2), some (.int 20), some (.int 1), some (.int 3)]) rfl rfl ?_
      refine E_iload rfl rfl ?_
      refine E_if (t := 15) (b := false) rfl rfl (by decide) ?_
      refine E_iload rfl rfl ?_
      exact E_iret rfl rfl
    refine E_callV (v := some (.int 3)) (As := [.ref 0, .int 2, .int a2, .int 20, .int 1]) (r0 := []) (cs2 := w0) rfl rfl rfl (Nat.le_of_ble_eq_true rfl) rfl rfl e22 (by decide) rfl ?_
    refine E_istore (L2 := [some (.ref 0), some (.int 2), some (.int a2), some (.int a3), some (.int 3)]) rfl rfl ?_
    refine E_iload rfl rfl ?_
    refine E_if (t := 48) (b := true) rfl rfl (by decide) ?_
    refine E_iload rfl rfl ?_
    refine E_if (t := 60) (b := false) rfl rfl (by decide) ?_
    refine E_aload_n rfl rfl ?_
    refine E_iload rfl rfl ?_
    refine E_callV (v := some (.int (-3))) (As := [.ref 0, .int 3]) (r0 := []) (cs2 := (w0.set 48 (.inl [0, 0, 0, 1, 0, 0, 0, 0]))) rfl rfl rfl (Nat.le_of_ble_eq_true rfl) rfl rfl c32_X5_refuse (by decide) (by simp only [List.length_set]) ?_
    exact E_iret rfl rfl, by
    refine Ef.in (md := mX6_behind) (L := [some (.ref 65), some (.int 2), some (.int a2), some (.int a3), none, none]) rfl (Nat.le_of_ble_eq_true rfl) rfl ?_
    refine E_aload_n rfl rfl ?_
    refine E_iload_n rfl rfl ?_
    refine E_iload_n rfl rfl ?_
    refine E_bipush (x := 20) rfl (by decide) ?_
    refine E_iload_n rfl rfl ?_
    refine E_if (t := 18) (b := false) rfl rfl ((cn_lt (rfl : (a3).toInt = (a3).toInt) (by decide : (0 : Int32).toInt = 0)).trans (decide_eq_false (by omega))) ?_
    refine E_iload_n rfl rfl ?_
    refine E_iconst (x := 2) rfl (by decide) ?_
    refine E_ic (t := 18) (b := true) rfl rfl ((cn_gt (rfl : (a3).toInt = (a3).toInt) (by decide : (2 : Int32).toInt = 2)).trans (decide_eq_true (by omega))) ?_
    refine E_iconst (x := 0) rfl (by decide) ?_
    have e11 : Ev ab_Z0 3 186 [.ref 65, .int 2, .int a2, .int 20, .int 0] (w0.set 48 (.inl [0, 0, 0, 1, 0, 0, 0, 0])) (some (.int (-3)), (w0.set 48 (.inl [0, 0, 0, 1, 0, 0, 0, 0]))) := by
      refine Ef.in (md := mX6_barsOf) (L := [some (.ref 65), some (.int 2), some (.int a2), some (.int 20), some (.int 0), none]) rfl (Nat.le_of_ble_eq_true rfl) rfl ?_
      refine E_aload_n rfl rfl ?_
      refine E_iload_n rfl rfl ?_
      refine E_callV (v := some (.int (-3))) (As := [.ref 65, .int 2]) (r0 := []) (cs2 := (w0.set 48 (.inl [0, 0, 0, 1, 0, 0, 0, 0]))) rfl rfl rfl (Nat.le_of_ble_eq_true rfl) rfl rfl c211_X6_wanted (by decide) rfl ?_
      refine E_istore (L2 := [some (.ref 65), some (.int 2), some (.int a2), some (.int 20), some (.int 0), some (.int (-3))]) rfl rfl ?_
      refine E_iload rfl rfl ?_
      refine E_if (t := 17) (b := false) rfl rfl (by decide) ?_
      refine E_iload rfl rfl ?_
      refine E_goto (t := 59) rfl rfl ?_
      exact E_iret rfl rfl
    refine E_callV (v := some (.int (-3))) (As := [.ref 65, .int 2, .int a2, .int 20, .int 0]) (r0 := []) (cs2 := (w0.set 48 (.inl [0, 0, 0, 1, 0, 0, 0, 0]))) rfl rfl rfl (Nat.le_of_ble_eq_true rfl) rfl rfl e11 (by decide) rfl ?_
    refine E_istore (L2 := [some (.ref 65), some (.int 2), some (.int a2), some (.int a3), some (.int (-3)), none]) rfl rfl ?_
    refine E_iload rfl rfl ?_
    refine E_if (t := 36) (b := false) rfl rfl (by decide) ?_
    refine E_aload_n rfl rfl ?_
    refine E_iload rfl rfl ?_
    refine E_callV (v := some (.int (-3))) (As := [.ref 65, .int (-3)]) (r0 := []) (cs2 := ((w0.set 48 (.inl [0, 0, 0, 1, 0, 0, 0, 0])).set 66 (.inl [0, 0, 0, 1, 0, 0, 0, 0]))) rfl rfl rfl (Nat.le_of_ble_eq_true rfl) rfl rfl c35_X6_no (by decide) (by simp only [List.length_set]) ?_
    exact E_iret rfl rfl, (by simp only [List.length_set]; rfl), (by simp only [List.length_set]; rfl), ((ab_szs rfl).trans ((ab_szs rfl).trans rfl)), fun _ => rfl⟩
theorem f_behind_25 (a2 a3 : Int32) (ha3l : (3 : Int) ≤ a3.toInt) : p1_P 7 104 6 195 [.ref 0, .int 3, .int a2, .int a3] [.ref 65, .int 3, .int a2, .int a3] :=
  ⟨(-3), (w0.set 48 (.inl [0, 0, 0, 1, 0, 0, 0, 0])), ((w0.set 48 (.inl [0, 0, 0, 1, 0, 0, 0, 0])).set 66 (.inl [0, 0, 0, 1, 0, 0, 0, 0])), by
    refine Ef.in (md := mX5_behind) (L := [some (.ref 0), some (.int 3), some (.int a2), some (.int a3), none]) rfl (Nat.le_of_ble_eq_true rfl) rfl ?_
    refine E_aload_n rfl rfl ?_
    refine E_iload_n rfl rfl ?_
    refine E_iload_n rfl rfl ?_
    refine E_bipush (x := 20) rfl (by decide) ?_
    refine E_iload_n rfl rfl ?_
    refine E_iconst (x := 0) rfl (by decide) ?_
    refine E_iconst (x := 2) rfl (by decide) ?_
    have e8 : Ev ab_Z0 1 115 [.int a3, .int 0, .int 2] w0 (some (.int 0), w0) := by
      refine Ef.in (md := mX5_isFrom) (L := [some (.int a3), some (.int 0), some (.int 2)]) rfl (Nat.le_of_ble_eq_true rfl) rfl ?_
      refine E_iload_n rfl rfl ?_
      refine E_iload_n rfl rfl ?_
      refine E_ic (t := 14) (b := false) rfl rfl ((cn_lt (rfl : (a3).toInt = (a3).toInt) (by decide : (0 : Int32).toInt = 0)).trans (decide_eq_false (by omega))) ?_
      refine E_iload_n rfl rfl ?_
      refine E_iload_n rfl rfl ?_
      refine E_ic (t := 14) (b := true) rfl rfl ((cn_gt (rfl : (a3).toInt = (a3).toInt) (by decide : (2 : Int32).toInt = 2)).trans (decide_eq_true (by omega))) ?_
      refine E_iconst (x := 0) rfl (by decide) ?_
      exact E_iret rfl rfl
    refine E_callS (v := some (.int 0)) (As := [.int a3, .int 0, .int 2]) (r0 := [.int 20, .int a2, .int 3, .ref 0]) (cs2 := w0) rfl rfl rfl (Nat.le_of_ble_eq_true rfl) rfl e8 (by decide) rfl ?_
    refine E_if (t := 18) (b := false) rfl rfl (by decide) ?_
    refine E_iconst (x := 1) rfl (by decide) ?_
    refine E_goto (t := 19) rfl rfl ?_
    have e22 : Ev ab_Z0 3 120 [.ref 0, .int 3, .int a2, .int 20, .int 1] w0 (some (.int 3), w0) := by
      refine Ef.in (md := mX5_whyNoTwos) (L := [some (.ref 0), some (.int 3), some (.int a2), some (.int 20), some (.int 1), none]) rfl (Nat.le_of_ble_eq_true rfl) rfl ?_
      refine E_aload_n rfl rfl ?_
      refine E_iload_n rfl rfl ?_
      refine E_callV (v := some (.int 3)) (As := [.ref 0, .int 3]) (r0 := []) (cs2 := w0) rfl rfl rfl (Nat.le_of_ble_eq_true rfl) rfl rfl c44_X5_whyNoRow (by decide) rfl ?_
      refine E_istore (L2 := [some (.ref 0), some (.int 3), some (.int a2), some (.int 20), some (.int 1), some (.int 3)]) rfl rfl ?_
      refine E_iload rfl rfl ?_
      refine E_if (t := 15) (b := false) rfl rfl (by decide) ?_
      refine E_iload rfl rfl ?_
      exact E_iret rfl rfl
    refine E_callV (v := some (.int 3)) (As := [.ref 0, .int 3, .int a2, .int 20, .int 1]) (r0 := []) (cs2 := w0) rfl rfl rfl (Nat.le_of_ble_eq_true rfl) rfl rfl e22 (by decide) rfl ?_
    refine E_istore (L2 := [some (.ref 0), some (.int 3), some (.int a2), some (.int a3), some (.int 3)]) rfl rfl ?_
    refine E_iload rfl rfl ?_
    refine E_if (t := 48) (b := true) rfl rfl (by decide) ?_
    refine E_iload rfl rfl ?_
    refine E_if (t := 60) (b := false) rfl rfl (by decide) ?_
    refine E_aload_n rfl rfl ?_
    refine E_iload rfl rfl ?_
    refine E_callV (v := some (.int (-3))) (As := [.ref 0, .int 3]) (r0 := []) (cs2 := (w0.set 48 (.inl [0, 0, 0, 1, 0, 0, 0, 0]))) rfl rfl rfl (Nat.le_of_ble_eq_true rfl) rfl rfl c32_X5_refuse (by decide) (by simp only [List.length_set]) ?_
    exact E_iret rfl rfl, by
    refine Ef.in (md := mX6_behind) (L := [some (.ref 65), some (.int 3), some (.int a2), some (.int a3), none, none]) rfl (Nat.le_of_ble_eq_true rfl) rfl ?_
    refine E_aload_n rfl rfl ?_
    refine E_iload_n rfl rfl ?_
    refine E_iload_n rfl rfl ?_
    refine E_bipush (x := 20) rfl (by decide) ?_
    refine E_iload_n rfl rfl ?_
    refine E_if (t := 18) (b := false) rfl rfl ((cn_lt (rfl : (a3).toInt = (a3).toInt) (by decide : (0 : Int32).toInt = 0)).trans (decide_eq_false (by omega))) ?_
    refine E_iload_n rfl rfl ?_
    refine E_iconst (x := 2) rfl (by decide) ?_
    refine E_ic (t := 18) (b := true) rfl rfl ((cn_gt (rfl : (a3).toInt = (a3).toInt) (by decide : (2 : Int32).toInt = 2)).trans (decide_eq_true (by omega))) ?_
    refine E_iconst (x := 0) rfl (by decide) ?_
    have e11 : Ev ab_Z0 3 186 [.ref 65, .int 3, .int a2, .int 20, .int 0] (w0.set 48 (.inl [0, 0, 0, 1, 0, 0, 0, 0])) (some (.int (-3)), (w0.set 48 (.inl [0, 0, 0, 1, 0, 0, 0, 0]))) := by
      refine Ef.in (md := mX6_barsOf) (L := [some (.ref 65), some (.int 3), some (.int a2), some (.int 20), some (.int 0), none]) rfl (Nat.le_of_ble_eq_true rfl) rfl ?_
      refine E_aload_n rfl rfl ?_
      refine E_iload_n rfl rfl ?_
      refine E_callV (v := some (.int (-3))) (As := [.ref 65, .int 3]) (r0 := []) (cs2 := (w0.set 48 (.inl [0, 0, 0, 1, 0, 0, 0, 0]))) rfl rfl rfl (Nat.le_of_ble_eq_true rfl) rfl rfl c214_X6_wanted (by decide) rfl ?_
      refine E_istore (L2 := [some (.ref 65), some (.int 3), some (.int a2), some (.int 20), some (.int 0), some (.int (-3))]) rfl rfl ?_
      refine E_iload rfl rfl ?_
      refine E_if (t := 17) (b := false) rfl rfl (by decide) ?_
      refine E_iload rfl rfl ?_
      refine E_goto (t := 59) rfl rfl ?_
      exact E_iret rfl rfl
    refine E_callV (v := some (.int (-3))) (As := [.ref 65, .int 3, .int a2, .int 20, .int 0]) (r0 := []) (cs2 := (w0.set 48 (.inl [0, 0, 0, 1, 0, 0, 0, 0]))) rfl rfl rfl (Nat.le_of_ble_eq_true rfl) rfl rfl e11 (by decide) rfl ?_
    refine E_istore (L2 := [some (.ref 65), some (.int 3), some (.int a2), some (.int a3), some (.int (-3)), none]) rfl rfl ?_
    refine E_iload rfl rfl ?_
    refine E_if (t := 36) (b := false) rfl rfl (by decide) ?_
    refine E_aload_n rfl rfl ?_
    refine E_iload rfl rfl ?_
    refine E_callV (v := some (.int (-3))) (As := [.ref 65, .int (-3)]) (r0 := []) (cs2 := ((w0.set 48 (.inl [0, 0, 0, 1, 0, 0, 0, 0])).set 66 (.inl [0, 0, 0, 1, 0, 0, 0, 0]))) rfl rfl rfl (Nat.le_of_ble_eq_true rfl) rfl rfl c35_X6_no (by decide) (by simp only [List.length_set]) ?_
    exact E_iret rfl rfl, (by simp only [List.length_set]; rfl), (by simp only [List.length_set]; rfl), ((ab_szs rfl).trans ((ab_szs rfl).trans rfl)), fun _ => rfl⟩
theorem f_behind_26 (a2 a3 : Int32) (ha3l : (3 : Int) ≤ a3.toInt) : p1_P 7 104 6 195 [.ref 0, .int 4, .int a2, .int a3] [.ref 65, .int 4, .int a2, .int a3] :=
  ⟨(-3), (w0.set 48 (.inl [0, 0, 0, 1, 0, 0, 0, 0])), ((w0.set 48 (.inl [0, 0, 0, 1, 0, 0, 0, 0])).set 66 (.inl [0, 0, 0, 1, 0, 0, 0, 0])), by
    refine Ef.in (md := mX5_behind) (L := [some (.ref 0), some (.int 4), some (.int a2), some (.int a3), none]) rfl (Nat.le_of_ble_eq_true rfl) rfl ?_
    refine E_aload_n rfl rfl ?_
    refine E_iload_n rfl rfl ?_
    refine E_iload_n rfl rfl ?_
    refine E_bipush (x := 20) rfl (by decide) ?_
    refine E_iload_n rfl rfl ?_
    refine E_iconst (x := 0) rfl (by decide) ?_
    refine E_iconst (x := 2) rfl (by decide) ?_
    have e8 : Ev ab_Z0 1 115 [.int a3, .int 0, .int 2] w0 (some (.int 0), w0) := by
      refine Ef.in (md := mX5_isFrom) (L := [some (.int a3), some (.int 0), some (.int 2)]) rfl (Nat.le_of_ble_eq_true rfl) rfl ?_
      refine E_iload_n rfl rfl ?_
      refine E_iload_n rfl rfl ?_
      refine E_ic (t := 14) (b := false) rfl rfl ((cn_lt (rfl : (a3).toInt = (a3).toInt) (by decide : (0 : Int32).toInt = 0)).trans (decide_eq_false (by omega))) ?_
      refine E_iload_n rfl rfl ?_
      refine E_iload_n rfl rfl ?_
      refine E_ic (t := 14) (b := true) rfl rfl ((cn_gt (rfl : (a3).toInt = (a3).toInt) (by decide : (2 : Int32).toInt = 2)).trans (decide_eq_true (by omega))) ?_
      refine E_iconst (x := 0) rfl (by decide) ?_
      exact E_iret rfl rfl
    refine E_callS (v := some (.int 0)) (As := [.int a3, .int 0, .int 2]) (r0 := [.int 20, .int a2, .int 4, .ref 0]) (cs2 := w0) rfl rfl rfl (Nat.le_of_ble_eq_true rfl) rfl e8 (by decide) rfl ?_
    refine E_if (t := 18) (b := false) rfl rfl (by decide) ?_
    refine E_iconst (x := 1) rfl (by decide) ?_
    refine E_goto (t := 19) rfl rfl ?_
    have e22 : Ev ab_Z0 3 120 [.ref 0, .int 4, .int a2, .int 20, .int 1] w0 (some (.int 3), w0) := by
      refine Ef.in (md := mX5_whyNoTwos) (L := [some (.ref 0), some (.int 4), some (.int a2), some (.int 20), some (.int 1), none]) rfl (Nat.le_of_ble_eq_true rfl) rfl ?_
      refine E_aload_n rfl rfl ?_
      refine E_iload_n rfl rfl ?_
      refine E_callV (v := some (.int 3)) (As := [.ref 0, .int 4]) (r0 := []) (cs2 := w0) rfl rfl rfl (Nat.le_of_ble_eq_true rfl) rfl rfl c48_X5_whyNoRow (by decide) rfl ?_
      refine E_istore (L2 := [some (.ref 0), some (.int 4), some (.int a2), some (.int 20), some (.int 1), some (.int 3)]) rfl rfl ?_
      refine E_iload rfl rfl ?_
      refine E_if (t := 15) (b := false) rfl rfl (by decide) ?_
      refine E_iload rfl rfl ?_
      exact E_iret rfl rfl
    refine E_callV (v := some (.int 3)) (As := [.ref 0, .int 4, .int a2, .int 20, .int 1]) (r0 := []) (cs2 := w0) rfl rfl rfl (Nat.le_of_ble_eq_true rfl) rfl rfl e22 (by decide) rfl ?_
    refine E_istore (L2 := [some (.ref 0), some (.int 4), some (.int a2), some (.int a3), some (.int 3)]) rfl rfl ?_
    refine E_iload rfl rfl ?_
    refine E_if (t := 48) (b := true) rfl rfl (by decide) ?_
    refine E_iload rfl rfl ?_
    refine E_if (t := 60) (b := false) rfl rfl (by decide) ?_
    refine E_aload_n rfl rfl ?_
    refine E_iload rfl rfl ?_
    refine E_callV (v := some (.int (-3))) (As := [.ref 0, .int 3]) (r0 := []) (cs2 := (w0.set 48 (.inl [0, 0, 0, 1, 0, 0, 0, 0]))) rfl rfl rfl (Nat.le_of_ble_eq_true rfl) rfl rfl c32_X5_refuse (by decide) (by simp only [List.length_set]) ?_
    exact E_iret rfl rfl, by
    refine Ef.in (md := mX6_behind) (L := [some (.ref 65), some (.int 4), some (.int a2), some (.int a3), none, none]) rfl (Nat.le_of_ble_eq_true rfl) rfl ?_
    refine E_aload_n rfl rfl ?_
    refine E_iload_n rfl rfl ?_
    refine E_iload_n rfl rfl ?_
    refine E_bipush (x := 20) rfl (by decide) ?_
    refine E_iload_n rfl rfl ?_
    refine E_if (t := 18) (b := false) rfl rfl ((cn_lt (rfl : (a3).toInt = (a3).toInt) (by decide : (0 : Int32).toInt = 0)).trans (decide_eq_false (by omega))) ?_
    refine E_iload_n rfl rfl ?_
    refine E_iconst (x := 2) rfl (by decide) ?_
    refine E_ic (t := 18) (b := true) rfl rfl ((cn_gt (rfl : (a3).toInt = (a3).toInt) (by decide : (2 : Int32).toInt = 2)).trans (decide_eq_true (by omega))) ?_
    refine E_iconst (x := 0) rfl (by decide) ?_
    have e11 : Ev ab_Z0 3 186 [.ref 65, .int 4, .int a2, .int 20, .int 0] (w0.set 48 (.inl [0, 0, 0, 1, 0, 0, 0, 0])) (some (.int (-3)), (w0.set 48 (.inl [0, 0, 0, 1, 0, 0, 0, 0]))) := by
      refine Ef.in (md := mX6_barsOf) (L := [some (.ref 65), some (.int 4), some (.int a2), some (.int 20), some (.int 0), none]) rfl (Nat.le_of_ble_eq_true rfl) rfl ?_
      refine E_aload_n rfl rfl ?_
      refine E_iload_n rfl rfl ?_
      refine E_callV (v := some (.int (-3))) (As := [.ref 65, .int 4]) (r0 := []) (cs2 := (w0.set 48 (.inl [0, 0, 0, 1, 0, 0, 0, 0]))) rfl rfl rfl (Nat.le_of_ble_eq_true rfl) rfl rfl c217_X6_wanted (by decide) rfl ?_
      refine E_istore (L2 := [some (.ref 65), some (.int 4), some (.int a2), some (.int 20), some (.int 0), some (.int (-3))]) rfl rfl ?_
      refine E_iload rfl rfl ?_
      refine E_if (t := 17) (b := false) rfl rfl (by decide) ?_
      refine E_iload rfl rfl ?_
      refine E_goto (t := 59) rfl rfl ?_
      exact E_iret rfl rfl
    refine E_callV (v := some (.int (-3))) (As := [.ref 65, .int 4, .int a2, .int 20, .int 0]) (r0 := []) (cs2 := (w0.set 48 (.inl [0, 0, 0, 1, 0, 0, 0, 0]))) rfl rfl rfl (Nat.le_of_ble_eq_true rfl) rfl rfl e11 (by decide) rfl ?_
    refine E_istore (L2 := [some (.ref 65), some (.int 4), some (.int a2), some (.int a3), some (.int (-3)), none]) rfl rfl ?_
    refine E_iload rfl rfl ?_
    refine E_if (t := 36) (b := false) rfl rfl (by decide) ?_
    refine E_aload_n rfl rfl ?_
    refine E_iload rfl rfl ?_
    refine E_callV (v := some (.int (-3))) (As := [.ref 65, .int (-3)]) (r0 := []) (cs2 := ((w0.set 48 (.inl [0, 0, 0, 1, 0, 0, 0, 0])).set 66 (.inl [0, 0, 0, 1, 0, 0, 0, 0]))) rfl rfl rfl (Nat.le_of_ble_eq_true rfl) rfl rfl c35_X6_no (by decide) (by simp only [List.length_set]) ?_
    exact E_iret rfl rfl, (by simp only [List.length_set]; rfl), (by simp only [List.length_set]; rfl), ((ab_szs rfl).trans ((ab_szs rfl).trans rfl)), fun _ => rfl⟩
theorem f_behind_27 (a2 a3 : Int32) (ha3l : (3 : Int) ≤ a3.toInt) : p1_P 7 104 6 195 [.ref 0, .int 5, .int a2, .int a3] [.ref 65, .int 5, .int a2, .int a3] :=
  ⟨(-3), (w0.set 48 (.inl [0, 0, 0, 1, 0, 0, 0, 0])), ((w0.set 48 (.inl [0, 0, 0, 1, 0, 0, 0, 0])).set 66 (.inl [0, 0, 0, 1, 0, 0, 0, 0])), by
    refine Ef.in (md := mX5_behind) (L := [some (.ref 0), some (.int 5), some (.int a2), some (.int a3), none]) rfl (Nat.le_of_ble_eq_true rfl) rfl ?_
    refine E_aload_n rfl rfl ?_
    refine E_iload_n rfl rfl ?_
    refine E_iload_n rfl rfl ?_
    refine E_bipush (x := 20) rfl (by decide) ?_
    refine E_iload_n rfl rfl ?_
    refine E_iconst (x := 0) rfl (by decide) ?_
    refine E_iconst (x := 2) rfl (by decide) ?_
    have e8 : Ev ab_Z0 1 115 [.int a3, .int 0, .int 2] w0 (some (.int 0), w0) := by
      refine Ef.in (md := mX5_isFrom) (L := [some (.int a3), some (.int 0), some (.int 2)]) rfl (Nat.le_of_ble_eq_true rfl) rfl ?_
      refine E_iload_n rfl rfl ?_
      refine E_iload_n rfl rfl ?_
      refine E_ic (t := 14) (b := false) rfl rfl ((cn_lt (rfl : (a3).toInt = (a3).toInt) (by decide : (0 : Int32).toInt = 0)).trans (decide_eq_false (by omega))) ?_
      refine E_iload_n rfl rfl ?_
      refine E_iload_n rfl rfl ?_
      refine E_ic (t := 14) (b := true) rfl rfl ((cn_gt (rfl : (a3).toInt = (a3).toInt) (by decide : (2 : Int32).toInt = 2)).trans (decide_eq_true (by omega))) ?_
      refine E_iconst (x := 0) rfl (by decide) ?_
      exact E_iret rfl rfl
    refine E_callS (v := some (.int 0)) (As := [.int a3, .int 0, .int 2]) (r0 := [.int 20, .int a2, .int 5, .ref 0]) (cs2 := w0) rfl rfl rfl (Nat.le_of_ble_eq_true rfl) rfl e8 (by decide) rfl ?_
    refine E_if (t := 18) (b := false) rfl rfl (by decide) ?_
    refine E_iconst (x := 1) rfl (by decide) ?_
    refine E_goto (t := 19) rfl rfl ?_
    have e22 : Ev ab_Z0 3 120 [.ref 0, .int 5, .int a2, .int 20, .int 1] w0 (some (.int 3), w0) := by
      refine Ef.in (md := mX5_whyNoTwos) (L := [some (.ref 0), some (.int 5), some (.int a2), some (.int 20), some (.int 1), none]) rfl (Nat.le_of_ble_eq_true rfl) rfl ?_
      refine E_aload_n rfl rfl ?_
      refine E_iload_n rfl rfl ?_
      refine E_callV (v := some (.int 3)) (As := [.ref 0, .int 5]) (r0 := []) (cs2 := w0) rfl rfl rfl (Nat.le_of_ble_eq_true rfl) rfl rfl c52_X5_whyNoRow (by decide) rfl ?_
      refine E_istore (L2 := [some (.ref 0), some (.int 5), some (.int a2), some (.int 20), some (.int 1), some (.int 3)]) rfl rfl ?_
      refine E_iload rfl rfl ?_
      refine E_if (t := 15) (b := false) rfl rfl (by decide) ?_
      refine E_iload rfl rfl ?_
      exact E_iret rfl rfl
    refine E_callV (v := some (.int 3)) (As := [.ref 0, .int 5, .int a2, .int 20, .int 1]) (r0 := []) (cs2 := w0) rfl rfl rfl (Nat.le_of_ble_eq_true rfl) rfl rfl e22 (by decide) rfl ?_
    refine E_istore (L2 := [some (.ref 0), some (.int 5), some (.int a2), some (.int a3), some (.int 3)]) rfl rfl ?_
    refine E_iload rfl rfl ?_
    refine E_if (t := 48) (b := true) rfl rfl (by decide) ?_
    refine E_iload rfl rfl ?_
    refine E_if (t := 60) (b := false) rfl rfl (by decide) ?_
    refine E_aload_n rfl rfl ?_
    refine E_iload rfl rfl ?_
    refine E_callV (v := some (.int (-3))) (As := [.ref 0, .int 3]) (r0 := []) (cs2 := (w0.set 48 (.inl [0, 0, 0, 1, 0, 0, 0, 0]))) rfl rfl rfl (Nat.le_of_ble_eq_true rfl) rfl rfl c32_X5_refuse (by decide) (by simp only [List.length_set]) ?_
    exact E_iret rfl rfl, by
    refine Ef.in (md := mX6_behind) (L := [some (.ref 65), some (.int 5), some (.int a2), some (.int a3), none, none]) rfl (Nat.le_of_ble_eq_true rfl) rfl ?_
    refine E_aload_n rfl rfl ?_
    refine E_iload_n rfl rfl ?_
    refine E_iload_n rfl rfl ?_
    refine E_bipush (x := 20) rfl (by decide) ?_
    refine E_iload_n rfl rfl ?_
    refine E_if (t := 18) (b := false) rfl rfl ((cn_lt (rfl : (a3).toInt = (a3).toInt) (by decide : (0 : Int32).toInt = 0)).trans (decide_eq_false (by omega))) ?_
    refine E_iload_n rfl rfl ?_
    refine E_iconst (x := 2) rfl (by decide) ?_
    refine E_ic (t := 18) (b := true) rfl rfl ((cn_gt (rfl : (a3).toInt = (a3).toInt) (by decide : (2 : Int32).toInt = 2)).trans (decide_eq_true (by omega))) ?_
    refine E_iconst (x := 0) rfl (by decide) ?_
    have e11 : Ev ab_Z0 3 186 [.ref 65, .int 5, .int a2, .int 20, .int 0] (w0.set 48 (.inl [0, 0, 0, 1, 0, 0, 0, 0])) (some (.int (-3)), (w0.set 48 (.inl [0, 0, 0, 1, 0, 0, 0, 0]))) := by
      refine Ef.in (md := mX6_barsOf) (L := [some (.ref 65), some (.int 5), some (.int a2), some (.int 20), some (.int 0), none]) rfl (Nat.le_of_ble_eq_true rfl) rfl ?_
      refine E_aload_n rfl rfl ?_
      refine E_iload_n rfl rfl ?_
      refine E_callV (v := some (.int (-3))) (As := [.ref 65, .int 5]) (r0 := []) (cs2 := (w0.set 48 (.inl [0, 0, 0, 1, 0, 0, 0, 0]))) rfl rfl rfl (Nat.le_of_ble_eq_true rfl) rfl rfl c220_X6_wanted (by decide) rfl ?_
      refine E_istore (L2 := [some (.ref 65), some (.int 5), some (.int a2), some (.int 20), some (.int 0), some (.int (-3))]) rfl rfl ?_
      refine E_iload rfl rfl ?_
      refine E_if (t := 17) (b := false) rfl rfl (by decide) ?_
      refine E_iload rfl rfl ?_
      refine E_goto (t := 59) rfl rfl ?_
      exact E_iret rfl rfl
    refine E_callV (v := some (.int (-3))) (As := [.ref 65, .int 5, .int a2, .int 20, .int 0]) (r0 := []) (cs2 := (w0.set 48 (.inl [0, 0, 0, 1, 0, 0, 0, 0]))) rfl rfl rfl (Nat.le_of_ble_eq_true rfl) rfl rfl e11 (by decide) rfl ?_
    refine E_istore (L2 := [some (.ref 65), some (.int 5), some (.int a2), some (.int a3), some (.int (-3)), none]) rfl rfl ?_
    refine E_iload rfl rfl ?_
    refine E_if (t := 36) (b := false) rfl rfl (by decide) ?_
    refine E_aload_n rfl rfl ?_
    refine E_iload rfl rfl ?_
    refine E_callV (v := some (.int (-3))) (As := [.ref 65, .int (-3)]) (r0 := []) (cs2 := ((w0.set 48 (.inl [0, 0, 0, 1, 0, 0, 0, 0])).set 66 (.inl [0, 0, 0, 1, 0, 0, 0, 0]))) rfl rfl rfl (Nat.le_of_ble_eq_true rfl) rfl rfl c35_X6_no (by decide) (by simp only [List.length_set]) ?_
    exact E_iret rfl rfl, (by simp only [List.length_set]; rfl), (by simp only [List.length_set]; rfl), ((ab_szs rfl).trans ((ab_szs rfl).trans rfl)), fun _ => rfl⟩
theorem f_behind_28 (a2 a3 : Int32) (ha3l : (3 : Int) ≤ a3.toInt) : p1_P 7 104 6 195 [.ref 0, .int 6, .int a2, .int a3] [.ref 65, .int 6, .int a2, .int a3] :=
  ⟨(-3), (w0.set 48 (.inl [0, 0, 0, 1, 0, 0, 0, 0])), ((w0.set 48 (.inl [0, 0, 0, 1, 0, 0, 0, 0])).set 66 (.inl [0, 0, 0, 1, 0, 0, 0, 0])), by
    refine Ef.in (md := mX5_behind) (L := [some (.ref 0), some (.int 6), some (.int a2), some (.int a3), none]) rfl (Nat.le_of_ble_eq_true rfl) rfl ?_
    refine E_aload_n rfl rfl ?_
    refine E_iload_n rfl rfl ?_
    refine E_iload_n rfl rfl ?_
    refine E_bipush (x := 20) rfl (by decide) ?_
    refine E_iload_n rfl rfl ?_
    refine E_iconst (x := 0) rfl (by decide) ?_
    refine E_iconst (x := 2) rfl (by decide) ?_
    have e8 : Ev ab_Z0 1 115 [.int a3, .int 0, .int 2] w0 (some (.int 0), w0) := by
      refine Ef.in (md := mX5_isFrom) (L := [some (.int a3), some (.int 0), some (.int 2)]) rfl (Nat.le_of_ble_eq_true rfl) rfl ?_
      refine E_iload_n rfl rfl ?_
      refine E_iload_n rfl rfl ?_
      refine E_ic (t := 14) (b := false) rfl rfl ((cn_lt (rfl : (a3).toInt = (a3).toInt) (by decide : (0 : Int32).toInt = 0)).trans (decide_eq_false (by omega))) ?_
      refine E_iload_n rfl rfl ?_
      refine E_iload_n rfl rfl ?_
      refine E_ic (t := 14) (b := true) rfl rfl ((cn_gt (rfl : (a3).toInt = (a3).toInt) (by decide : (2 : Int32).toInt = 2)).trans (decide_eq_true (by omega))) ?_
      refine E_iconst (x := 0) rfl (by decide) ?_
      exact E_iret rfl rfl
    refine E_callS (v := some (.int 0)) (As := [.int a3, .int 0, .int 2]) (r0 := [.int 20, .int a2, .int 6, .ref 0]) (cs2 := w0) rfl rfl rfl (Nat.le_of_ble_eq_true rfl) rfl e8 (by decide) rfl ?_
    refine E_if (t := 18) (b := false) rfl rfl (by decide) ?_
    refine E_iconst (x := 1) rfl (by decide) ?_
    refine E_goto (t := 19) rfl rfl ?_
    have e22 : Ev ab_Z0 3 120 [.ref 0, .int 6, .int a2, .int 20, .int 1] w0 (some (.int 3), w0) := by
      refine Ef.in (md := mX5_whyNoTwos) (L := [some (.ref 0), some (.int 6), some (.int a2), some (.int 20), some (.int 1), none]) rfl (Nat.le_of_ble_eq_true rfl) rfl ?_
      refine E_aload_n rfl rfl ?_
      refine E_iload_n rfl rfl ?_
      refine E_callV (v := some (.int 3)) (As := [.ref 0, .int 6]) (r0 := []) (cs2 := w0) rfl rfl rfl (Nat.le_of_ble_eq_true rfl) rfl rfl c56_X5_whyNoRow (by decide) rfl ?_
      refine E_istore (L2 := [some (.ref 0), some (.int 6), some (.int a2), some (.int 20), some (.int 1), some (.int 3)]) rfl rfl ?_
      refine E_iload rfl rfl ?_
      refine E_if (t := 15) (b := false) rfl rfl (by decide) ?_
      refine E_iload rfl rfl ?_
      exact E_iret rfl rfl
    refine E_callV (v := some (.int 3)) (As := [.ref 0, .int 6, .int a2, .int 20, .int 1]) (r0 := []) (cs2 := w0) rfl rfl rfl (Nat.le_of_ble_eq_true rfl) rfl rfl e22 (by decide) rfl ?_
    refine E_istore (L2 := [some (.ref 0), some (.int 6), some (.int a2), some (.int a3), some (.int 3)]) rfl rfl ?_
    refine E_iload rfl rfl ?_
    refine E_if (t := 48) (b := true) rfl rfl (by decide) ?_
    refine E_iload rfl rfl ?_
    refine E_if (t := 60) (b := false) rfl rfl (by decide) ?_
    refine E_aload_n rfl rfl ?_
    refine E_iload rfl rfl ?_
    refine E_callV (v := some (.int (-3))) (As := [.ref 0, .int 3]) (r0 := []) (cs2 := (w0.set 48 (.inl [0, 0, 0, 1, 0, 0, 0, 0]))) rfl rfl rfl (Nat.le_of_ble_eq_true rfl) rfl rfl c32_X5_refuse (by decide) (by simp only [List.length_set]) ?_
    exact E_iret rfl rfl, by
    refine Ef.in (md := mX6_behind) (L := [some (.ref 65), some (.int 6), some (.int a2), some (.int a3), none, none]) rfl (Nat.le_of_ble_eq_true rfl) rfl ?_
    refine E_aload_n rfl rfl ?_
    refine E_iload_n rfl rfl ?_
    refine E_iload_n rfl rfl ?_
    refine E_bipush (x := 20) rfl (by decide) ?_
    refine E_iload_n rfl rfl ?_
    refine E_if (t := 18) (b := false) rfl rfl ((cn_lt (rfl : (a3).toInt = (a3).toInt) (by decide : (0 : Int32).toInt = 0)).trans (decide_eq_false (by omega))) ?_
    refine E_iload_n rfl rfl ?_
    refine E_iconst (x := 2) rfl (by decide) ?_
    refine E_ic (t := 18) (b := true) rfl rfl ((cn_gt (rfl : (a3).toInt = (a3).toInt) (by decide : (2 : Int32).toInt = 2)).trans (decide_eq_true (by omega))) ?_
    refine E_iconst (x := 0) rfl (by decide) ?_
    have e11 : Ev ab_Z0 3 186 [.ref 65, .int 6, .int a2, .int 20, .int 0] (w0.set 48 (.inl [0, 0, 0, 1, 0, 0, 0, 0])) (some (.int (-3)), (w0.set 48 (.inl [0, 0, 0, 1, 0, 0, 0, 0]))) := by
      refine Ef.in (md := mX6_barsOf) (L := [some (.ref 65), some (.int 6), some (.int a2), some (.int 20), some (.int 0), none]) rfl (Nat.le_of_ble_eq_true rfl) rfl ?_
      refine E_aload_n rfl rfl ?_
      refine E_iload_n rfl rfl ?_
      refine E_callV (v := some (.int (-3))) (As := [.ref 65, .int 6]) (r0 := []) (cs2 := (w0.set 48 (.inl [0, 0, 0, 1, 0, 0, 0, 0]))) rfl rfl rfl (Nat.le_of_ble_eq_true rfl) rfl rfl c223_X6_wanted (by decide) rfl ?_
      refine E_istore (L2 := [some (.ref 65), some (.int 6), some (.int a2), some (.int 20), some (.int 0), some (.int (-3))]) rfl rfl ?_
      refine E_iload rfl rfl ?_
      refine E_if (t := 17) (b := false) rfl rfl (by decide) ?_
      refine E_iload rfl rfl ?_
      refine E_goto (t := 59) rfl rfl ?_
      exact E_iret rfl rfl
    refine E_callV (v := some (.int (-3))) (As := [.ref 65, .int 6, .int a2, .int 20, .int 0]) (r0 := []) (cs2 := (w0.set 48 (.inl [0, 0, 0, 1, 0, 0, 0, 0]))) rfl rfl rfl (Nat.le_of_ble_eq_true rfl) rfl rfl e11 (by decide) rfl ?_
    refine E_istore (L2 := [some (.ref 65), some (.int 6), some (.int a2), some (.int a3), some (.int (-3)), none]) rfl rfl ?_
    refine E_iload rfl rfl ?_
    refine E_if (t := 36) (b := false) rfl rfl (by decide) ?_
    refine E_aload_n rfl rfl ?_
    refine E_iload rfl rfl ?_
    refine E_callV (v := some (.int (-3))) (As := [.ref 65, .int (-3)]) (r0 := []) (cs2 := ((w0.set 48 (.inl [0, 0, 0, 1, 0, 0, 0, 0])).set 66 (.inl [0, 0, 0, 1, 0, 0, 0, 0]))) rfl rfl rfl (Nat.le_of_ble_eq_true rfl) rfl rfl c35_X6_no (by decide) (by simp only [List.length_set]) ?_
    exact E_iret rfl rfl, (by simp only [List.length_set]; rfl), (by simp only [List.length_set]; rfl), ((ab_szs rfl).trans ((ab_szs rfl).trans rfl)), fun _ => rfl⟩
theorem f_behind_29 (a2 a3 : Int32) (ha3l : (3 : Int) ≤ a3.toInt) : p1_P 7 104 6 195 [.ref 0, .int 7, .int a2, .int a3] [.ref 65, .int 7, .int a2, .int a3] :=
  ⟨(-3), (w0.set 48 (.inl [0, 0, 0, 1, 0, 0, 0, 0])), ((w0.set 48 (.inl [0, 0, 0, 1, 0, 0, 0, 0])).set 66 (.inl [0, 0, 0, 1, 0, 0, 0, 0])), by
    refine Ef.in (md := mX5_behind) (L := [some (.ref 0), some (.int 7), some (.int a2), some (.int a3), none]) rfl (Nat.le_of_ble_eq_true rfl) rfl ?_
    refine E_aload_n rfl rfl ?_
    refine E_iload_n rfl rfl ?_
    refine E_iload_n rfl rfl ?_
    refine E_bipush (x := 20) rfl (by decide) ?_
    refine E_iload_n rfl rfl ?_
    refine E_iconst (x := 0) rfl (by decide) ?_
    refine E_iconst (x := 2) rfl (by decide) ?_
    have e8 : Ev ab_Z0 1 115 [.int a3, .int 0, .int 2] w0 (some (.int 0), w0) := by
      refine Ef.in (md := mX5_isFrom) (L := [some (.int a3), some (.int 0), some (.int 2)]) rfl (Nat.le_of_ble_eq_true rfl) rfl ?_
      refine E_iload_n rfl rfl ?_
      refine E_iload_n rfl rfl ?_
      refine E_ic (t := 14) (b := false) rfl rfl ((cn_lt (rfl : (a3).toInt = (a3).toInt) (by decide : (0 : Int32).toInt = 0)).trans (decide_eq_false (by omega))) ?_
      refine E_iload_n rfl rfl ?_
      refine E_iload_n rfl rfl ?_
      refine E_ic (t := 14) (b := true) rfl rfl ((cn_gt (rfl : (a3).toInt = (a3).toInt) (by decide : (2 : Int32).toInt = 2)).trans (decide_eq_true (by omega))) ?_
      refine E_iconst (x := 0) rfl (by decide) ?_
      exact E_iret rfl rfl
    refine E_callS (v := some (.int 0)) (As := [.int a3, .int 0, .int 2]) (r0 := [.int 20, .int a2, .int 7, .ref 0]) (cs2 := w0) rfl rfl rfl (Nat.le_of_ble_eq_true rfl) rfl e8 (by decide) rfl ?_
    refine E_if (t := 18) (b := false) rfl rfl (by decide) ?_
    refine E_iconst (x := 1) rfl (by decide) ?_
    refine E_goto (t := 19) rfl rfl ?_
    have e22 : Ev ab_Z0 3 120 [.ref 0, .int 7, .int a2, .int 20, .int 1] w0 (some (.int 3), w0) := by
      refine Ef.in (md := mX5_whyNoTwos) (L := [some (.ref 0), some (.int 7), some (.int a2), some (.int 20), some (.int 1), none]) rfl (Nat.le_of_ble_eq_true rfl) rfl ?_
      refine E_aload_n rfl rfl ?_
      refine E_iload_n rfl rfl ?_
      refine E_callV (v := some (.int 3)) (As := [.ref 0, .int 7]) (r0 := []) (cs2 := w0) rfl rfl rfl (Nat.le_of_ble_eq_true rfl) rfl rfl c60_X5_whyNoRow (by decide) rfl ?_
      refine E_istore (L2 := [some (.ref 0), some (.int 7), some (.int a2), some (.int 20), some (.int 1), some (.int 3)]) rfl rfl ?_
      refine E_iload rfl rfl ?_
      refine E_if (t := 15) (b := false) rfl rfl (by decide) ?_
      refine E_iload rfl rfl ?_
      exact E_iret rfl rfl
    refine E_callV (v := some (.int 3)) (As := [.ref 0, .int 7, .int a2, .int 20, .int 1]) (r0 := []) (cs2 := w0) rfl rfl rfl (Nat.le_of_ble_eq_true rfl) rfl rfl e22 (by decide) rfl ?_
    refine E_istore (L2 := [some (.ref 0), some (.int 7), some (.int a2), some (.int a3), some (.int 3)]) rfl rfl ?_
    refine E_iload rfl rfl ?_
    refine E_if (t := 48) (b := true) rfl rfl (by decide) ?_
    refine E_iload rfl rfl ?_
    refine E_if (t := 60) (b := false) rfl rfl (by decide) ?_
    refine E_aload_n rfl rfl ?_
    refine E_iload rfl rfl ?_
    refine E_callV (v := some (.int (-3))) (As := [.ref 0, .int 3]) (r0 := []) (cs2 := (w0.set 48 (.inl [0, 0, 0, 1, 0, 0, 0, 0]))) rfl rfl rfl (Nat.le_of_ble_eq_true rfl) rfl rfl c32_X5_refuse (by decide) (by simp only [List.length_set]) ?_
    exact E_iret rfl rfl, by
    refine Ef.in (md := mX6_behind) (L := [some (.ref 65), some (.int 7), some (.int a2), some (.int a3), none, none]) rfl (Nat.le_of_ble_eq_true rfl) rfl ?_
    refine E_aload_n rfl rfl ?_
    refine E_iload_n rfl rfl ?_
    refine E_iload_n rfl rfl ?_
    refine E_bipush (x := 20) rfl (by decide) ?_
    refine E_iload_n rfl rfl ?_
    refine E_if (t := 18) (b := false) rfl rfl ((cn_lt (rfl : (a3).toInt = (a3).toInt) (by decide : (0 : Int32).toInt = 0)).trans (decide_eq_false (by omega))) ?_
    refine E_iload_n rfl rfl ?_
    refine E_iconst (x := 2) rfl (by decide) ?_
    refine E_ic (t := 18) (b := true) rfl rfl ((cn_gt (rfl : (a3).toInt = (a3).toInt) (by decide : (2 : Int32).toInt = 2)).trans (decide_eq_true (by omega))) ?_
    refine E_iconst (x := 0) rfl (by decide) ?_
    have e11 : Ev ab_Z0 3 186 [.ref 65, .int 7, .int a2, .int 20, .int 0] (w0.set 48 (.inl [0, 0, 0, 1, 0, 0, 0, 0])) (some (.int (-3)), (w0.set 48 (.inl [0, 0, 0, 1, 0, 0, 0, 0]))) := by
      refine Ef.in (md := mX6_barsOf) (L := [some (.ref 65), some (.int 7), some (.int a2), some (.int 20), some (.int 0), none]) rfl (Nat.le_of_ble_eq_true rfl) rfl ?_
      refine E_aload_n rfl rfl ?_
      refine E_iload_n rfl rfl ?_
      refine E_callV (v := some (.int (-3))) (As := [.ref 65, .int 7]) (r0 := []) (cs2 := (w0.set 48 (.inl [0, 0, 0, 1, 0, 0, 0, 0]))) rfl rfl rfl (Nat.le_of_ble_eq_true rfl) rfl rfl c226_X6_wanted (by decide) rfl ?_
      refine E_istore (L2 := [some (.ref 65), some (.int 7), some (.int a2), some (.int 20), some (.int 0), some (.int (-3))]) rfl rfl ?_
      refine E_iload rfl rfl ?_
      refine E_if (t := 17) (b := false) rfl rfl (by decide) ?_
      refine E_iload rfl rfl ?_
      refine E_goto (t := 59) rfl rfl ?_
      exact E_iret rfl rfl
    refine E_callV (v := some (.int (-3))) (As := [.ref 65, .int 7, .int a2, .int 20, .int 0]) (r0 := []) (cs2 := (w0.set 48 (.inl [0, 0, 0, 1, 0, 0, 0, 0]))) rfl rfl rfl (Nat.le_of_ble_eq_true rfl) rfl rfl e11 (by decide) rfl ?_
    refine E_istore (L2 := [some (.ref 65), some (.int 7), some (.int a2), some (.int a3), some (.int (-3)), none]) rfl rfl ?_
    refine E_iload rfl rfl ?_
    refine E_if (t := 36) (b := false) rfl rfl (by decide) ?_
    refine E_aload_n rfl rfl ?_
    refine E_iload rfl rfl ?_
    refine E_callV (v := some (.int (-3))) (As := [.ref 65, .int (-3)]) (r0 := []) (cs2 := ((w0.set 48 (.inl [0, 0, 0, 1, 0, 0, 0, 0])).set 66 (.inl [0, 0, 0, 1, 0, 0, 0, 0]))) rfl rfl rfl (Nat.le_of_ble_eq_true rfl) rfl rfl c35_X6_no (by decide) (by simp only [List.length_set]) ?_
    exact E_iret rfl rfl, (by simp only [List.length_set]; rfl), (by simp only [List.length_set]; rfl), ((ab_szs rfl).trans ((ab_szs rfl).trans rfl)), fun _ => rfl⟩
theorem f_behind_30 (a1 a2 a3 : Int32) (ha1l : (8 : Int) ≤ a1.toInt) (ha3l : (3 : Int) ≤ a3.toInt) : p1_P 7 104 6 195 [.ref 0, .int a1, .int a2, .int a3] [.ref 65, .int a1, .int a2, .int a3] :=
  ⟨(-1), (w0.set 48 (.inl [0, 1, 0, 0, 0, 0, 0, 0])), ((w0.set 48 (.inl [0, 1, 0, 0, 0, 0, 0, 0])).set 66 (.inl [0, 1, 0, 0, 0, 0, 0, 0])), by
    refine Ef.in (md := mX5_behind) (L := [some (.ref 0), some (.int a1), some (.int a2), some (.int a3), none]) rfl (Nat.le_of_ble_eq_true rfl) rfl ?_
    refine E_aload_n rfl rfl ?_
    refine E_iload_n rfl rfl ?_
    refine E_iload_n rfl rfl ?_
    refine E_bipush (x := 20) rfl (by decide) ?_
    refine E_iload_n rfl rfl ?_
    refine E_iconst (x := 0) rfl (by decide) ?_
    refine E_iconst (x := 2) rfl (by decide) ?_
    have e8 : Ev ab_Z0 1 115 [.int a3, .int 0, .int 2] w0 (some (.int 0), w0) := by
      refine Ef.in (md := mX5_isFrom) (L := [some (.int a3), some (.int 0), some (.int 2)]) rfl (Nat.le_of_ble_eq_true rfl) rfl ?_
      refine E_iload_n rfl rfl ?_
      refine E_iload_n rfl rfl ?_
      refine E_ic (t := 14) (b := false) rfl rfl ((cn_lt (rfl : (a3).toInt = (a3).toInt) (by decide : (0 : Int32).toInt = 0)).trans (decide_eq_false (by omega))) ?_
      refine E_iload_n rfl rfl ?_
      refine E_iload_n rfl rfl ?_
      refine E_ic (t := 14) (b := true) rfl rfl ((cn_gt (rfl : (a3).toInt = (a3).toInt) (by decide : (2 : Int32).toInt = 2)).trans (decide_eq_true (by omega))) ?_
      refine E_iconst (x := 0) rfl (by decide) ?_
      exact E_iret rfl rfl
    refine E_callS (v := some (.int 0)) (As := [.int a3, .int 0, .int 2]) (r0 := [.int 20, .int a2, .int a1, .ref 0]) (cs2 := w0) rfl rfl rfl (Nat.le_of_ble_eq_true rfl) rfl e8 (by decide) rfl ?_
    refine E_if (t := 18) (b := false) rfl rfl (by decide) ?_
    refine E_iconst (x := 1) rfl (by decide) ?_
    refine E_goto (t := 19) rfl rfl ?_
    have e22 : Ev ab_Z0 3 120 [.ref 0, .int a1, .int a2, .int 20, .int 1] w0 (some (.int 1), w0) := by
      refine Ef.in (md := mX5_whyNoTwos) (L := [some (.ref 0), some (.int a1), some (.int a2), some (.int 20), some (.int 1), none]) rfl (Nat.le_of_ble_eq_true rfl) rfl ?_
      refine E_aload_n rfl rfl ?_
      refine E_iload_n rfl rfl ?_
      have e3 : Ev ab_Z0 2 119 [.ref 0, .int a1] w0 (some (.int 1), w0) := by
        refine Ef.in (md := mX5_whyNoRow) (L := [some (.ref 0), some (.int a1)]) rfl (Nat.le_of_ble_eq_true rfl) rfl ?_
        refine E_iload_n rfl rfl ?_
        have e2 : Ev ab_Z0 1 117 [.int a1] w0 (some (.int 0), w0) := by
          refine Ef.in (md := mX5_isShelf) (L := [some (.int a1)]) rfl (Nat.le_of_ble_eq_true rfl) rfl ?_
          refine E_iload_n rfl rfl ?_
          refine E_if (t := 14) (b := false) rfl rfl ((cn_lt (rfl : (a1).toInt = (a1).toInt) (by decide : (0 : Int32).toInt = 0)).trans (decide_eq_false (by omega))) ?_
          refine E_iload_n rfl rfl ?_
          refine E_bipush (x := 8) rfl (by decide) ?_
          refine E_ic (t := 14) (b := true) rfl rfl ((cn_ge (rfl : (a1).toInt = (a1).toInt) (by decide : (8 : Int32).toInt = 8)).trans (decide_eq_true (by omega))) ?_
          refine E_iconst (x := 0) rfl (by decide) ?_
          exact E_iret rfl rfl
        refine E_callS (v := some (.int 0)) (As := [.int a1]) (r0 := []) (cs2 := w0) rfl rfl rfl (Nat.le_of_ble_eq_true rfl) rfl e2 (by decide) rfl ?_
        refine E_if (t := 9) (b := false) rfl rfl (by decide) ?_
        refine E_iconst (x := 1) rfl (by decide) ?_
        exact E_iret rfl rfl
      refine E_callV (v := some (.int 1)) (As := [.ref 0, .int a1]) (r0 := []) (cs2 := w0) rfl rfl rfl (Nat.le_of_ble_eq_true rfl) rfl rfl e3 (by decide) rfl ?_
      refine E_istore (L2 := [some (.ref 0), some (.int a1), some (.int a2), some (.int 20), some (.int 1), some (.int 1)]) rfl rfl ?_
      refine E_iload rfl rfl ?_
      refine E_if (t := 15) (b := false) rfl rfl (by decide) ?_
      refine E_iload rfl rfl ?_
      exact E_iret rfl rfl
    refine E_callV (v := some (.int 1)) (As := [.ref 0, .int a1, .int a2, .int 20, .int 1]) (r0 := []) (cs2 := w0) rfl rfl rfl (Nat.le_of_ble_eq_true rfl) rfl rfl e22 (by decide) rfl ?_
    refine E_istore (L2 := [some (.ref 0), some (.int a1), some (.int a2), some (.int a3), some (.int 1)]) rfl rfl ?_
    refine E_iload rfl rfl ?_
    refine E_if (t := 48) (b := true) rfl rfl (by decide) ?_
    refine E_iload rfl rfl ?_
    refine E_if (t := 60) (b := false) rfl rfl (by decide) ?_
    refine E_aload_n rfl rfl ?_
    refine E_iload rfl rfl ?_
    refine E_callV (v := some (.int (-1))) (As := [.ref 0, .int 1]) (r0 := []) (cs2 := (w0.set 48 (.inl [0, 1, 0, 0, 0, 0, 0, 0]))) rfl rfl rfl (Nat.le_of_ble_eq_true rfl) rfl rfl c1_X5_refuse (by decide) (by simp only [List.length_set]) ?_
    exact E_iret rfl rfl, by
    refine Ef.in (md := mX6_behind) (L := [some (.ref 65), some (.int a1), some (.int a2), some (.int a3), none, none]) rfl (Nat.le_of_ble_eq_true rfl) rfl ?_
    refine E_aload_n rfl rfl ?_
    refine E_iload_n rfl rfl ?_
    refine E_iload_n rfl rfl ?_
    refine E_bipush (x := 20) rfl (by decide) ?_
    refine E_iload_n rfl rfl ?_
    refine E_if (t := 18) (b := false) rfl rfl ((cn_lt (rfl : (a3).toInt = (a3).toInt) (by decide : (0 : Int32).toInt = 0)).trans (decide_eq_false (by omega))) ?_
    refine E_iload_n rfl rfl ?_
    refine E_iconst (x := 2) rfl (by decide) ?_
    refine E_ic (t := 18) (b := true) rfl rfl ((cn_gt (rfl : (a3).toInt = (a3).toInt) (by decide : (2 : Int32).toInt = 2)).trans (decide_eq_true (by omega))) ?_
    refine E_iconst (x := 0) rfl (by decide) ?_
    have e11 : Ev ab_Z0 3 186 [.ref 65, .int a1, .int a2, .int 20, .int 0] (w0.set 48 (.inl [0, 1, 0, 0, 0, 0, 0, 0])) (some (.int (-1)), (w0.set 48 (.inl [0, 1, 0, 0, 0, 0, 0, 0]))) := by
      refine Ef.in (md := mX6_barsOf) (L := [some (.ref 65), some (.int a1), some (.int a2), some (.int 20), some (.int 0), none]) rfl (Nat.le_of_ble_eq_true rfl) rfl ?_
      refine E_aload_n rfl rfl ?_
      refine E_iload_n rfl rfl ?_
      have e3 : Ev ab_Z0 2 142 [.ref 65, .int a1] (w0.set 48 (.inl [0, 1, 0, 0, 0, 0, 0, 0])) (some (.int (-1)), (w0.set 48 (.inl [0, 1, 0, 0, 0, 0, 0, 0]))) := by
        refine Ef.in (md := mX6_wanted) (L := [some (.ref 65), some (.int a1)]) rfl (Nat.le_of_ble_eq_true rfl) rfl ?_
        refine E_aload_n rfl rfl ?_
        refine E_iload_n rfl rfl ?_
        have e3 : Ev ab_Z0 1 131 [.ref 65, .int a1] (w0.set 48 (.inl [0, 1, 0, 0, 0, 0, 0, 0])) (some (.int 0), (w0.set 48 (.inl [0, 1, 0, 0, 0, 0, 0, 0]))) := by
          refine Ef.in (md := mX6_isShelf) (L := [some (.ref 65), some (.int a1)]) rfl (Nat.le_of_ble_eq_true rfl) rfl ?_
          refine E_iload_n rfl rfl ?_
          refine E_if (t := 14) (b := false) rfl rfl ((cn_lt (rfl : (a1).toInt = (a1).toInt) (by decide : (0 : Int32).toInt = 0)).trans (decide_eq_false (by omega))) ?_
          refine E_iload_n rfl rfl ?_
          refine E_bipush (x := 8) rfl (by decide) ?_
          refine E_ic (t := 14) (b := true) rfl rfl ((cn_ge (rfl : (a1).toInt = (a1).toInt) (by decide : (8 : Int32).toInt = 8)).trans (decide_eq_true (by omega))) ?_
          refine E_iconst (x := 0) rfl (by decide) ?_
          exact E_iret rfl rfl
        refine E_callV (v := some (.int 0)) (As := [.ref 65, .int a1]) (r0 := []) (cs2 := (w0.set 48 (.inl [0, 1, 0, 0, 0, 0, 0, 0]))) rfl rfl rfl (Nat.le_of_ble_eq_true rfl) rfl rfl e3 (by decide) rfl ?_
        refine E_if (t := 12) (b := false) rfl rfl (by decide) ?_
        refine E_iconst (x := (-1)) rfl (by decide) ?_
        refine E_goto (t := 42) rfl rfl ?_
        exact E_iret rfl rfl
      refine E_callV (v := some (.int (-1))) (As := [.ref 65, .int a1]) (r0 := []) (cs2 := (w0.set 48 (.inl [0, 1, 0, 0, 0, 0, 0, 0]))) rfl rfl rfl (Nat.le_of_ble_eq_true rfl) rfl rfl e3 (by decide) rfl ?_
      refine E_istore (L2 := [some (.ref 65), some (.int a1), some (.int a2), some (.int 20), some (.int 0), some (.int (-1))]) rfl rfl ?_
      refine E_iload rfl rfl ?_
      refine E_if (t := 17) (b := false) rfl rfl (by decide) ?_
      refine E_iload rfl rfl ?_
      refine E_goto (t := 59) rfl rfl ?_
      exact E_iret rfl rfl
    refine E_callV (v := some (.int (-1))) (As := [.ref 65, .int a1, .int a2, .int 20, .int 0]) (r0 := []) (cs2 := (w0.set 48 (.inl [0, 1, 0, 0, 0, 0, 0, 0]))) rfl rfl rfl (Nat.le_of_ble_eq_true rfl) rfl rfl e11 (by decide) rfl ?_
    refine E_istore (L2 := [some (.ref 65), some (.int a1), some (.int a2), some (.int a3), some (.int (-1)), none]) rfl rfl ?_
    refine E_iload rfl rfl ?_
    refine E_if (t := 36) (b := false) rfl rfl (by decide) ?_
    refine E_aload_n rfl rfl ?_
    refine E_iload rfl rfl ?_
    refine E_callV (v := some (.int (-1))) (As := [.ref 65, .int (-1)]) (r0 := []) (cs2 := ((w0.set 48 (.inl [0, 1, 0, 0, 0, 0, 0, 0])).set 66 (.inl [0, 1, 0, 0, 0, 0, 0, 0]))) rfl rfl rfl (Nat.le_of_ble_eq_true rfl) rfl rfl c3_X6_no (by decide) (by simp only [List.length_set]) ?_
    exact E_iret rfl rfl, (by simp only [List.length_set]; rfl), (by simp only [List.length_set]; rfl), ((ab_szs rfl).trans ((ab_szs rfl).trans rfl)), fun _ => rfl⟩
theorem f_behind (a1 a2 a3 : Int32) : p1_P 7 104 6 195 [.ref 0, .int a1, .int a2, .int a3] [.ref 65, .int a1, .int a2, .int a3] := by
  rcases ab_ltge a3.toInt (0) with h | h
  · rcases ab_ltge a1.toInt (0) with h | h
    · exact f_behind_1 a1 a2 a3 (by omega) (by omega)
    rcases ab_ltge a1.toInt (8) with h | h
    · rcases ab_ltge a1.toInt (1) with h | h
      · obtain rfl : a1 = 0 := Int32.toInt_inj.mp (by rw [show ((0 : Int32).toInt = 0) by decide]; omega)
        exact f_behind_2 a2 a3 (by omega)
      rcases ab_ltge a1.toInt (2) with h | h
      · obtain rfl : a1 = 1 := Int32.toInt_inj.mp (by rw [show ((1 : Int32).toInt = 1) by decide]; omega)
        exact f_behind_3 a2 a3 (by omega)
      rcases ab_ltge a1.toInt (3) with h | h
      · obtain rfl : a1 = 2 := Int32.toInt_inj.mp (by rw [show ((2 : Int32).toInt = 2) by decide]; omega)
        exact f_behind_4 a2 a3 (by omega)
      rcases ab_ltge a1.toInt (4) with h | h
      · obtain rfl : a1 = 3 := Int32.toInt_inj.mp (by rw [show ((3 : Int32).toInt = 3) by decide]; omega)
        exact f_behind_5 a2 a3 (by omega)
      rcases ab_ltge a1.toInt (5) with h | h
      · obtain rfl : a1 = 4 := Int32.toInt_inj.mp (by rw [show ((4 : Int32).toInt = 4) by decide]; omega)
        exact f_behind_6 a2 a3 (by omega)
      rcases ab_ltge a1.toInt (6) with h | h
      · obtain rfl : a1 = 5 := Int32.toInt_inj.mp (by rw [show ((5 : Int32).toInt = 5) by decide]; omega)
        exact f_behind_7 a2 a3 (by omega)
      rcases ab_ltge a1.toInt (7) with h | h
      · obtain rfl : a1 = 6 := Int32.toInt_inj.mp (by rw [show ((6 : Int32).toInt = 6) by decide]; omega)
        exact f_behind_8 a2 a3 (by omega)
      obtain rfl : a1 = 7 := Int32.toInt_inj.mp (by rw [show ((7 : Int32).toInt = 7) by decide]; omega)
      exact f_behind_9 a2 a3 (by omega)
    exact f_behind_10 a1 a2 a3 (by omega) (by omega)
  rcases ab_ltge a3.toInt (3) with h | h
  · rcases ab_ltge a1.toInt (0) with h | h
    · exact f_behind_11 a1 a2 a3 (by omega) (by omega) (by omega)
    rcases ab_ltge a1.toInt (8) with h | h
    · rcases ab_ltge a1.toInt (1) with h | h
      · obtain rfl : a1 = 0 := Int32.toInt_inj.mp (by rw [show ((0 : Int32).toInt = 0) by decide]; omega)
        exact f_behind_12 a2 a3 (by omega) (by omega)
      rcases ab_ltge a1.toInt (2) with h | h
      · obtain rfl : a1 = 1 := Int32.toInt_inj.mp (by rw [show ((1 : Int32).toInt = 1) by decide]; omega)
        exact f_behind_13 a2 a3 (by omega) (by omega)
      rcases ab_ltge a1.toInt (3) with h | h
      · obtain rfl : a1 = 2 := Int32.toInt_inj.mp (by rw [show ((2 : Int32).toInt = 2) by decide]; omega)
        exact f_behind_14 a2 a3 (by omega) (by omega)
      rcases ab_ltge a1.toInt (4) with h | h
      · obtain rfl : a1 = 3 := Int32.toInt_inj.mp (by rw [show ((3 : Int32).toInt = 3) by decide]; omega)
        exact f_behind_15 a2 a3 (by omega) (by omega)
      rcases ab_ltge a1.toInt (5) with h | h
      · obtain rfl : a1 = 4 := Int32.toInt_inj.mp (by rw [show ((4 : Int32).toInt = 4) by decide]; omega)
        exact f_behind_16 a2 a3 (by omega) (by omega)
      rcases ab_ltge a1.toInt (6) with h | h
      · obtain rfl : a1 = 5 := Int32.toInt_inj.mp (by rw [show ((5 : Int32).toInt = 5) by decide]; omega)
        exact f_behind_17 a2 a3 (by omega) (by omega)
      rcases ab_ltge a1.toInt (7) with h | h
      · obtain rfl : a1 = 6 := Int32.toInt_inj.mp (by rw [show ((6 : Int32).toInt = 6) by decide]; omega)
        exact f_behind_18 a2 a3 (by omega) (by omega)
      obtain rfl : a1 = 7 := Int32.toInt_inj.mp (by rw [show ((7 : Int32).toInt = 7) by decide]; omega)
      exact f_behind_19 a2 a3 (by omega) (by omega)
    exact f_behind_20 a1 a2 a3 (by omega) (by omega) (by omega)
  rcases ab_ltge a1.toInt (0) with h | h
  · exact f_behind_21 a1 a2 a3 (by omega) (by omega)
  rcases ab_ltge a1.toInt (8) with h | h
  · rcases ab_ltge a1.toInt (1) with h | h
    · obtain rfl : a1 = 0 := Int32.toInt_inj.mp (by rw [show ((0 : Int32).toInt = 0) by decide]; omega)
      exact f_behind_22 a2 a3 (by omega)
    rcases ab_ltge a1.toInt (2) with h | h
    · obtain rfl : a1 = 1 := Int32.toInt_inj.mp (by rw [show ((1 : Int32).toInt = 1) by decide]; omega)
      exact f_behind_23 a2 a3 (by omega)
    rcases ab_ltge a1.toInt (3) with h | h
    · obtain rfl : a1 = 2 := Int32.toInt_inj.mp (by rw [show ((2 : Int32).toInt = 2) by decide]; omega)
      exact f_behind_24 a2 a3 (by omega)
    rcases ab_ltge a1.toInt (4) with h | h
    · obtain rfl : a1 = 3 := Int32.toInt_inj.mp (by rw [show ((3 : Int32).toInt = 3) by decide]; omega)
      exact f_behind_25 a2 a3 (by omega)
    rcases ab_ltge a1.toInt (5) with h | h
    · obtain rfl : a1 = 4 := Int32.toInt_inj.mp (by rw [show ((4 : Int32).toInt = 4) by decide]; omega)
      exact f_behind_26 a2 a3 (by omega)
    rcases ab_ltge a1.toInt (6) with h | h
    · obtain rfl : a1 = 5 := Int32.toInt_inj.mp (by rw [show ((5 : Int32).toInt = 5) by decide]; omega)
      exact f_behind_27 a2 a3 (by omega)
    rcases ab_ltge a1.toInt (7) with h | h
    · obtain rfl : a1 = 6 := Int32.toInt_inj.mp (by rw [show ((6 : Int32).toInt = 6) by decide]; omega)
      exact f_behind_28 a2 a3 (by omega)
    obtain rfl : a1 = 7 := Int32.toInt_inj.mp (by rw [show ((7 : Int32).toInt = 7) by decide]; omega)
    exact f_behind_29 a2 a3 (by omega)
  exact f_behind_30 a1 a2 a3 (by omega) (by omega)
