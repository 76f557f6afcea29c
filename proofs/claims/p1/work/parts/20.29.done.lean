theorem f_done_1 (a1 a2 : Int32) (ha1h : a1.toInt ≤ -1) : p1_P 7 105 6 196 [.ref 0, .int a1, .int a2] [.ref 65, .int a1, .int a2] :=
  ⟨(-1), (w0.set 48 (.inl [0, 1, 0, 0, 0, 0, 0, 0])), ((w0.set 48 (.inl [0, 1, 0, 0, 0, 0, 0, 0])).set 66 (.inl [0, 1, 0, 0, 0, 0, 0, 0])), by
    refine Ef.in (md := mX5_done) (L := [some (.ref 0), some (.int a1), some (.int a2), none]) rfl (Nat.le_of_ble_eq_true rfl) rfl ?_
    refine E_aload_n rfl rfl ?_
    refine E_iload_n rfl rfl ?_
    refine E_iload_n rfl rfl ?_
    refine E_bipush (x := 20) rfl (by decide) ?_
    refine E_iconst (x := 0) rfl (by decide) ?_
    have e6 : Ev ab_Z0 3 120 [.ref 0, .int a1, .int a2, .int 20, .int 0] w0 (some (.int 1), w0) := by
      refine Ef.in (md := mX5_whyNoTwos) (L := [some (.ref 0), some (.int a1), some (.int a2), some (.int 20), some (.int 0), none]) rfl (Nat.le_of_ble_eq_true rfl) rfl ?_
      refine E_aload_n rfl rfl ?_
      refine E_iload_n rfl rfl ?_
      have e3 : Ev ab_Z0 2 119 [.ref 0, .int a1] w0 (some (.int 1), w0) := by
        refine Ef.in (md := mX5_whyNoRow) (L := [some (.ref 0), some (.int a1)]) rfl (Nat.le_of_ble_eq_true rfl) rfl ?_
        refine E_iload_n rfl rfl ?_
        have e2 : Ev ab_Z0 1 117 [.int a1] w0 (some (.int 0), w0) := by
          refine Ef.in (md := mX5_isShelf) (L := [some (.int a1)]) rfl (Nat.le_of_ble_eq_true rfl) rfl ?_
          refine E_iload_n rfl rfl ?_
          refine E_if (t := 14) (b := true) rfl rfl ((cn_lt (rfl : (a1).toInt = (a1).toInt) (by decide : (0 : Int32).toInt = 0)).trans (decide_eq_true (by omega))) ?_
          refine E_iconst (x := 0) rfl (by decide) ?_
          exact E_iret rfl rfl
        refine E_callS (v := some (.int 0)) (As := [.int a1]) (r0 := []) (cs2 := w0) rfl rfl rfl (Nat.le_of_ble_eq_true rfl) rfl e2 (by decide) rfl ?_
        refine E_if (t := 9) (b := false) rfl rfl (by decide) ?_
        refine E_iconst (x := 1) rfl (by decide) ?_
        exact E_iret rfl rfl
      refine E_callV (v := some (.int 1)) (As := [.ref 0, .int a1]) (r0 := []) (cs2 := w0) rfl rfl rfl (Nat.le_of_ble_eq_true rfl) rfl rfl e3 (by decide) rfl ?_
      refine E_istore (L2 := [some (.ref 0), some (.int a1), some (.int a2), some (.int 20), some (.int 0), some (.int 1)]) rfl rfl ?_
      refine E_iload rfl rfl ?_
      refine E_if (t := 15) (b := false) rfl rfl (by decide) ?_
      refine E_iload rfl rfl ?_
      exact E_iret rfl rfl
    refine E_callV (v := some (.int 1)) (As := [.ref 0, .int a1, .int a2, .int 20, .int 0]) (r0 := []) (cs2 := w0) rfl rfl rfl (Nat.le_of_ble_eq_true rfl) rfl rfl e6 (by decide) rfl ?_
    refine E_istore_n (L2 := [some (.ref 0), some (.int a1), some (.int a2), some (.int 1)]) rfl rfl ?_
    refine E_iload_n rfl rfl ?_
    refine E_if (t := 32) (b := true) rfl rfl (by decide) ?_
    refine E_iload_n rfl rfl ?_
    refine E_if (t := 42) (b := false) rfl rfl (by decide) ?_
    refine E_aload_n rfl rfl ?_
    refine E_iload_n rfl rfl ?_
    refine E_callV (v := some (.int (-1))) (As := [.ref 0, .int 1]) (r0 := []) (cs2 := (w0.set 48 (.inl [0, 1, 0, 0, 0, 0, 0, 0]))) rfl rfl rfl (Nat.le_of_ble_eq_true rfl) rfl rfl c1_X5_refuse (by decide) (by simp only [List.length_set]) ?_
    exact E_iret rfl rfl, by
    refine Ef.in (md := mX6_done) (L := [some (.ref 65), some (.int a1), some (.int a2), none]) rfl (Nat.le_of_ble_eq_true rfl) rfl ?_
    refine E_aload_n rfl rfl ?_
    refine E_iload_n rfl rfl ?_
    refine E_iload_n rfl rfl ?_
    refine E_bipush (x := 20) rfl (by decide) ?_
    refine E_iconst (x := 1) rfl (by decide) ?_
    have e6 : Ev ab_Z0 3 186 [.ref 65, .int a1, .int a2, .int 20, .int 1] (w0.set 48 (.inl [0, 1, 0, 0, 0, 0, 0, 0])) (some (.int (-1)), (w0.set 48 (.inl [0, 1, 0, 0, 0, 0, 0, 0]))) := by
      refine Ef.in (md := mX6_barsOf) (L := [some (.ref 65), some (.int a1), some (.int a2), some (.int 20), some (.int 1), none]) rfl (Nat.le_of_ble_eq_true rfl) rfl ?_
      refine E_aload_n rfl rfl ?_
      refine E_iload_n rfl rfl ?_
      have e3 : Ev ab_Z0 2 142 [.ref 65, .int a1] (w0.set 48 (.inl [0, 1, 0, 0, 0, 0, 0, 0])) (some (.int (-1)), (w0.set 48 (.inl [0, 1, 0, 0, 0, 0, 0, 0]))) := by
        refine Ef.in (md := mX6_wanted) (L := [some (.ref 65), some (.int a1)]) rfl (Nat.le_of_ble_eq_true rfl) rfl ?_
        refine E_aload_n rfl rfl ?_
        refine E_iload_n rfl rfl ?_
        have e3 : Ev ab_Z0 1 131 [.ref 65, .int a1] (w0.set 48 (.inl [0, 1, 0, 0, 0, 0, 0, 0])) (some (.int 0), (w0.set 48 (.inl [0, 1, 0, 0, 0, 0, 0, 0]))) := by
          refine Ef.in (md := mX6_isShelf) (L := [some (.ref 65), some (.int a1)]) rfl (Nat.le_of_ble_eq_true rfl) rfl ?_
          refine E_iload_n rfl rfl ?_
          refine E_if (t := 14) (b := true) rfl rfl ((cn_lt (rfl : (a1).toInt = (a1).toInt) (by decide : (0 : Int32).toInt = 0)).trans (decide_eq_true (by omega))) ?_
          refine E_iconst (x := 0) rfl (by decide) ?_
          exact E_iret rfl rfl
        refine E_callV (v := some (.int 0)) (As := [.ref 65, .int a1]) (r0 := []) (cs2 := (w0.set 48 (.inl [0, 1, 0, 0, 0, 0, 0, 0]))) rfl rfl rfl (Nat.le_of_ble_eq_true rfl) rfl rfl e3 (by decide) rfl ?_
        refine E_if (t := 12) (b := false) rfl rfl (by decide) ?_
        refine E_iconst (x := (-1)) rfl (by decide) ?_
        refine E_goto (t := 42) rfl rfl ?_
        exact E_iret rfl rfl
      refine E_callV (v := some (.int (-1))) (As := [.ref 65, .int a1]) (r0 := []) (cs2 := (w0.set 48 (.inl [0, 1, 0, 0, 0, 0, 0, 0]))) rfl rfl rfl (Nat.le_of_ble_eq_true rfl) rfl rfl e3 (by decide) rfl ?_
      refine E_istore (L2 := [some (.ref 65), some (.int a1), some (.int a2), some (.int 20), some (.int 1), some (.int (-1))]) rfl rfl ?_
      refine E_iload rfl rfl ?_
      refine E_if (t := 17) (b := false) rfl rfl (by decide) ?_
      refine E_iload rfl rfl ?_
      refine E_goto (t := 59) rfl rfl ?_
      exact E_iret rfl rfl
    refine E_callV (v := some (.int (-1))) (As := [.ref 65, .int a1, .int a2, .int 20, .int 1]) (r0 := []) (cs2 := (w0.set 48 (.inl [0, 1, 0, 0, 0, 0, 0, 0]))) rfl rfl rfl (Nat.le_of_ble_eq_true rfl) rfl rfl e6 (by decide) rfl ?_
    refine E_istore_n (L2 := [some (.ref 65), some (.int a1), some (.int a2), some (.int (-1))]) rfl rfl ?_
    refine E_iload_n rfl rfl ?_
    refine E_if (t := 20) (b := false) rfl rfl (by decide) ?_
    refine E_aload_n rfl rfl ?_
    refine E_iload_n rfl rfl ?_
    refine E_callV (v := some (.int (-1))) (As := [.ref 65, .int (-1)]) (r0 := []) (cs2 := ((w0.set 48 (.inl [0, 1, 0, 0, 0, 0, 0, 0])).set 66 (.inl [0, 1, 0, 0, 0, 0, 0, 0]))) rfl rfl rfl (Nat.le_of_ble_eq_true rfl) rfl rfl c3_X6_no (by decide) (by simp only [List.length_set]) ?_
    exact E_iret rfl rfl, (by simp only [List.length_set]; rfl), (by simp only [List.length_set]; rfl), ((ab_szs rfl).trans ((ab_szs rfl).trans rfl)), fun _ => rfl⟩
theorem f_done_2 (a2 : Int32) : p1_P 7 105 6 196 [.ref 0, .int 0, .int a2] [.ref 65, .int 0, .int a2] :=
  ⟨(-3), (w0.set 48 (.inl [0, 0, 0, 1, 0, 0, 0, 0])), ((w0.set 48 (.inl [0, 0, 0, 1, 0, 0, 0, 0])).set 66 (.inl [0, 0, 0, 1, 0, 0, 0, 0])), by
    refine Ef.in (md := mX5_done) (L := [some (.ref 0), some (.int 0), some (.int a2), none]) rfl (Nat.le_of_ble_eq_true rfl) rfl ?_
    refine E_aload_n rfl rfl ?_
    refine E_iload_n rfl rfl ?_
    refine E_iload_n rfl rfl ?_
    refine E_bipush (x := 20) rfl (by decide) ?_
    refine E_iconst (x := 0) rfl (by decide) ?_
    have e6 : Ev ab_Z0 3 120 [.ref 0, .int 0, .int a2, .int 20, .int 0] w0 (some (.int 3), w0) := by
      refine Ef.in (md := mX5_whyNoTwos) (L := [some (.ref 0), some (.int 0), some (.int a2), some (.int 20), some (.int 0), none]) rfl (Nat.le_of_ble_eq_true rfl) rfl ?_
      refine E_aload_n rfl rfl ?_
      refine E_iload_n rfl rfl ?_
      refine E_callV (v := some (.int 3)) (As := [.ref 0, .int 0]) (r0 := []) (cs2 := w0) rfl rfl rfl (Nat.le_of_ble_eq_true rfl) rfl rfl c29_X5_whyNoRow (by decide) rfl ?_
      refine E_istore (L2 := [some (.ref 0), some (.int 0), some (.int a2), some (.int 20), some (.int 0), some (.int 3)]) rfl rfl ?_
      refine E_iload rfl rfl ?_
      refine E_if (t := 15) (b := false) rfl rfl (by decide) ?_
      refine E_iload rfl rfl ?_
      exact E_iret rfl rfl
    refine E_callV (v := some (.int 3)) (As := [.ref 0, .int 0, .int a2, .int 20, .int 0]) (r0 := []) (cs2 := w0) rfl rfl rfl (Nat.le_of_ble_eq_true rfl) rfl rfl e6 (by decide) rfl ?_
    refine E_istore_n (L2 := [some (.ref 0), some (.int 0), some (.int a2), some (.int 3)]) rfl rfl ?_
    refine E_iload_n rfl rfl ?_
    refine E_if (t := 32) (b := true) rfl rfl (by decide) ?_
    refine E_iload_n rfl rfl ?_
    refine E_if (t := 42) (b := false) rfl rfl (by decide) ?_
    refine E_aload_n rfl rfl ?_
    refine E_iload_n rfl rfl ?_
    refine E_callV (v := some (.int (-3))) (As := [.ref 0, .int 3]) (r0 := []) (cs2 := (w0.set 48 (.inl [0, 0, 0, 1, 0, 0, 0, 0]))) rfl rfl rfl (Nat.le_of_ble_eq_true rfl) rfl rfl c32_X5_refuse (by decide) (by simp only [List.length_set]) ?_
    exact E_iret rfl rfl, by
    refine Ef.in (md := mX6_done) (L := [some (.ref 65), some (.int 0), some (.int a2), none]) rfl (Nat.le_of_ble_eq_true rfl) rfl ?_
    refine E_aload_n rfl rfl ?_
    refine E_iload_n rfl rfl ?_
    refine E_iload_n rfl rfl ?_
    refine E_bipush (x := 20) rfl (by decide) ?_
    refine E_iconst (x := 1) rfl (by decide) ?_
    have e6 : Ev ab_Z0 3 186 [.ref 65, .int 0, .int a2, .int 20, .int 1] (w0.set 48 (.inl [0, 0, 0, 1, 0, 0, 0, 0])) (some (.int (-3)), (w0.set 48 (.inl [0, 0, 0, 1, 0, 0, 0, 0]))) := by
      refine Ef.in (md := mX6_barsOf) (L := [some (.ref 65), some (.int 0), some (.int a2), some (.int 20), some (.int 1), none]) rfl (Nat.le_of_ble_eq_true rfl) rfl ?_
      refine E_aload_n rfl rfl ?_
      refine E_iload_n rfl rfl ?_
      refine E_callV (v := some (.int (-3))) (As := [.ref 65, .int 0]) (r0 := []) (cs2 := (w0.set 48 (.inl [0, 0, 0, 1, 0, 0, 0, 0]))) rfl rfl rfl (Nat.le_of_ble_eq_true rfl) rfl rfl c205_X6_wanted (by decide) rfl ?_
      refine E_istore (L2 := [some (.ref 65), some (.int 0), some (.int a2), some (.int 20), some (.int 1), some (.int (-3))]) rfl rfl ?_
      refine E_iload rfl rfl ?_
      refine E_if (t := 17) (b := false) rfl rfl (by decide) ?_
      refine E_iload rfl rfl ?_
      refine E_goto (t := 59) rfl rfl ?_
      exact E_iret rfl rfl
    refine E_callV (v := some (.int (-3))) (As := [.ref 65, .int 0, .int a2, .int 20, .int 1]) (r0 := []) (cs2 := (w0.set 48 (.inl [0, 0, 0, 1, 0, 0, 0, 0]))) rfl rfl rfl (Nat.le_of_ble_eq_true rfl) rfl rfl e6 (by decide) rfl ?_
    refine E_istore_n (L2 := [some (.ref 65), some (.int 0), some (.int a2), some (.int (-3))]) rfl rfl ?_
    refine E_iload_n rfl rfl ?_
    refine E_if (t := 20) (b := false) rfl rfl (by decide) ?_
    refine E_aload_n rfl rfl ?_
    refine E_iload_n rfl rfl ?_
    refine E_callV (v := some (.int (-3))) (As := [.ref 65, .int (-3)]) (r0 := []) (cs2 := ((w0.set 48 (.inl [0, 0, 0, 1, 0, 0, 0, 0])).set 66 (.inl [0, 0, 0, 1, 0, 0, 0, 0]))) rfl rfl rfl (Nat.le_of_ble_eq_true rfl) rfl rfl c35_X6_no (by decide) (by simp only [List.length_set]) ?_
    exact E_iret rfl rfl, (by simp only [List.length_set]; rfl), (by simp only [List.length_set]; rfl), ((ab_szs rfl).trans ((ab_szs rfl).trans rfl)), fun _ => rfl⟩
theorem f_done_3 (a2 : Int32) : p1_P 7 105 6 196 [.ref 0, .int 1, .int a2] [.ref 65, .int 1, .int a2] :=
  ⟨(-3), (w0.set 48 (.inl [0, 0, 0, 1, 0, 0, 0, 0])), ((w0.set 48 (.inl [0, 0, 0, 1, 0, 0, 0, 0])).set 66 (.inl [0, 0, 0, 1, 0, 0, 0, 0])), by
    refine Ef.in (md := mX5_done) (L := [some (.ref 0), some (.int 1), some (.int a2), none]) rfl (Nat.le_of_ble_eq_true rfl) rfl ?_
    refine E_aload_n rfl rfl ?_
    refine E_iload_n rfl rfl ?_
    refine E_iload_n rfl rfl ?_
    refine E_bipush (x := 20) rfl (by decide) ?_
    refine E_iconst (x := 0) rfl (by decide) ?_
    have e6 : Ev ab_Z0 3 120 [.ref 0, .int 1, .int a2, .int 20, .int 0] w0 (some (.int 3), w0) := by
      refine Ef.in (md := mX5_whyNoTwos) (L := [some (.ref 0), some (.int 1), some (.int a2), some (.int 20), some (.int 0), none]) rfl (Nat.le_of_ble_eq_true rfl) rfl ?_
      refine E_aload_n rfl rfl ?_
      refine E_iload_n rfl rfl ?_
      refine E_callV (v := some (.int 3)) (As := [.ref 0, .int 1]) (r0 := []) (cs2 := w0) rfl rfl rfl (Nat.le_of_ble_eq_true rfl) rfl rfl c36_X5_whyNoRow (by decide) rfl ?_
      refine E_istore (L2 := [some (.ref 0), some (.int 1), some (.int a2), some (.int 20), some (.int 0), some (.int 3)]) rfl rfl ?_
      refine E_iload rfl rfl ?_
      refine E_if (t := 15) (b := false) rfl rfl (by decide) ?_
      refine E_iload rfl rfl ?_
      exact E_iret rfl rfl
    refine E_callV (v := some (.int 3)) (As := [.ref 0, .int 1, .int a2, .int 20, .int 0]) (r0 := []) (cs2 := w0) rfl rfl rfl (Nat.le_of_ble_eq_true rfl) rfl rfl e6 (by decide) rfl ?_
    refine E_istore_n (L2 := [some (.ref 0), some (.int 1), some (.int a2), some (.int 3)]) rfl rfl ?_
    refine E_iload_n rfl rfl ?_
    refine E_if (t := 32) (b := true) rfl rfl (by decide) ?_
    refine E_iload_n rfl rfl ?_
    refine E_if (t := 42) (b := false) rfl rfl (by decide) ?_
    refine E_aload_n rfl rfl ?_
    refine E_iload_n rfl rfl ?_
    refine E_callV (v := some (.int (-3))) (As := [.ref 0, .int 3]) (r0 := []) (cs2 := (w0.set 48 (.inl [0, 0, 0, 1, 0, 0, 0, 0]))) rfl rfl rfl (Nat.le_of_ble_eq_true rfl) rfl rfl c32_X5_refuse (by decide) (by simp only [List.length_set]) ?_
    exact E_iret rfl rfl, by
    refine Ef.in (md := mX6_done) (L := [some (.ref 65), some (.int 1), some (.int a2), none]) rfl (Nat.le_of_ble_eq_true rfl) rfl ?_
    refine E_aload_n rfl rfl ?_
    refine E_iload_n rfl rfl ?_
    refine E_iload_n rfl rfl ?_
    refine E_bipush (x := 20) rfl (by decide) ?_
    refine E_iconst (x := 1) rfl (by decide) ?_
    have e6 : Ev ab_Z0 3 186 [.ref 65, .int 1, .int a2, .int 20, .int 1] (w0.set 48 (.inl [0, 0, 0, 1, 0, 0, 0, 0])) (some (.int (-3)), (w0.set 48 (.inl [0, 0, 0, 1, 0, 0, 0, 0]))) := by
      refine Ef.in (md := mX6_barsOf) (L := [some (.ref 65), some (.int 1), some (.int a2), some (.int 20), some (.int 1), none]) rfl (Nat.le_of_ble_eq_true rfl) rfl ?_
      refine E_aload_n rfl rfl ?_
      refine E_iload_n rfl rfl ?_
      refine E_callV (v := some (.int (-3))) (As := [.ref 65, .int 1]) (r0 := []) (cs2 := (w0.set 48 (.inl [0, 0, 0, 1, 0, 0, 0, 0]))) rfl rfl rfl (Nat.le_of_ble_eq_true rfl) rfl rfl c208_X6_wanted (by decide) rfl ?_
      refine E_istore (L2 := [some (.ref 65), some (.int 1), some (.int a2), some (.int 20), some (.int 1), some (.int (-3))]) rfl rfl ?_
      refine E_iload rfl rfl ?_
      refine E_if (t := 17) (b := false) rfl rfl (by decide) ?_
      refine E_iload rfl rfl ?_
      refine E_goto (t := 59) rfl rfl ?_
      exact E_iret rfl rfl
    refine E_callV (v := some (.int (-3))) (As := [.ref 65, .int 1, .int a2, .int 20, .int 1]) (r0 := []) (cs2 := (w0.set 48 (.inl [0, 0, 0, 1, 0, 0, 0, 0]))) rfl rfl rfl (Nat.le_of_ble_eq_true rfl) rfl rfl e6 (by decide) rfl ?_
    refine E_istore_n (L2 := [some (.ref 65), some (.int 1), some (.int a2), some (.int (-3))]) rfl rfl ?_
    refine E_iload_n rfl rfl ?_
    refine E_if (t := 20) (b := false) rfl rfl (by decide) ?_
    refine E_aload_n rfl rfl ?_
    refine E_iload_n rfl rfl ?_
    refine E_callV (v := some (.int (-3))) (As := [.ref 65, .int (-3)]) (r0 := []) (cs2 := ((w0.set 48 (.inl [0, 0, 0, 1, 0, 0, 0, 0])).set 66 (.inl [0, 0, 0, 1, 0, 0, 0, 0]))) rfl rfl rfl (Nat.le_of_ble_eq_true rfl) rfl rfl c35_X6_no (by decide) (by simp only [List.length_set]) ?_
    exact E_iret rfl rfl, (by simp only [List.length_set]; rfl), (by simp only [List.length_set]; rfl), ((ab_szs rfl).trans ((ab_szs rfl).trans rfl)), fun _ => rfl⟩
theorem f_done_4 (a2 : Int32) : p1_P 7 105 6 196 [.ref 0, .int 2, .int a2] [.ref 65, .int 2, .int a2] :=
  ⟨(-3), (w0.set 48 (.inl [0, 0, 0, 1, 0, 0, 0, 0])), ((w0.set 48 (.inl [0, 0, 0, 1, 0, 0, 0, 0])).set 66 (.inl [0, 0, 0, 1, 0, 0, 0, 0])), by
    refine Ef.in (md := mX5_done) (L := [some (.ref 0), some (.int 2), some (.int a2), none]) rfl (Nat.le_of_ble_eq_true rfl) rfl ?_
    refine E_aload_n rfl rfl ?_
    refine E_iload_n rfl rfl ?_
    refine E_iload_n rfl rfl ?_
    refine E_bipush (x := 20) rfl (by decide) ?_
    refine E_iconst (x := 0) rfl (by decide) ?_
    have e6 : Ev ab_Z0 3 120 [.ref 0, .int 2, .int a2, .int 20, .int 0] w0 (some (.int 3), w0) := by
      refine Ef.in (md := mX5_whyNoTwos) (L := [some (.ref 0), some (.int 2), some (.int a2), some (.int 20), some (.int 0), none]) rfl (Nat.le_of_ble_eq_true rfl) rfl ?_
      refine E_aload_n rfl rfl ?_
      refine E_iload_n rfl rfl ?_
      refine E_callV (v := some (.int 3)) (As := [.ref 0, .int 2]) (r0 := []) (cs2 := w0) rfl rfl rfl (Nat.le_of_ble_eq_true rfl) rfl rfl c40_X5_whyNoRow (by decide) rfl ?_
      refine E_istore (L2 := [some (.ref 0), some (.int 2), some (.int a2), some (.int 20), some (.int 0), some (.int 3)]) rfl rfl ?_
      refine E_iload rfl rfl ?_
      refine E_if (t := 15) (b := false) rfl rfl (by decide) ?_
      refine E_iload rfl rfl ?_
      exact E_iret rfl rfl
    refine E_callV (v := some (.int 3)) (As := [.ref 0, .int 2, .int a2, .int 20, .int 0]) (r0 := []) (cs2 := w0) rfl rfl rfl (Nat.le_of_ble_eq_true rfl) rfl rfl e6 (by decide) rfl ?_
    refine E_istore_n (L2 := [some (.ref 0), some (.int 2), some (.int a2), some (.int 3)]) rfl rfl ?_
    refine E_iload_n rfl rfl ?_
    refine E_if (t := 32) (b := true) rfl rfl (by decide) ?_
    refine E_iload_n rfl rfl ?_
    refine E_if (t := 42) (b := false) rfl rfl (by decide) ?_
    refine E_aload_n rfl rfl ?_
    refine E_iload_n rfl rfl ?_
    refine E_callV (v := some (.int (-3))) (As := [.ref 0, .int 3]) (r0 := []) (cs2 := (w0.set 48 (.inl [0, 0, 0, 1, 0, 0, 0, 0]))) rfl rfl rfl (Nat.le_of_ble_eq_true rfl) rfl rfl c32_X5_refuse (by decide) (by simp only [List.length_set]) ?_
    exact E_iret rfl rfl, by
    refine Ef.in (md := mX6_done) (L := [some (.ref 65), some (.int 2), some (.int a2), none]) rfl (Nat.le_of_ble_eq_true rfl) rfl ?_
    refine E_aload_n rfl rfl ?_
    refine E_iload_n rfl rfl ?_
    refine E_iload_n rfl rfl ?_
    refine E_bipush (x := 20) rfl (by decide) ?_
    refine E_iconst (x := 1) rfl (by decide) ?_
    have e6 : Ev ab_Z0 3 186 [.ref 65, .int 2, .int a2, .int 20, .int 1] (w0.set 48 (.inl [0, 0, 0, 1, 0, 0, 0, 0])) (some (.int (-3)), (w0.set 48 (.inl [0, 0, 0, 1, 0, 0, 0, 0]))) := by
      refine Ef.in (md := mX6_barsOf) (L := [some (.ref 65), some (.int 2), some (.int a2), some (.int 20), some (.int 1), none]) rfl (Nat.le_of_ble_eq_true rfl) rfl ?_
      refine E_aload_n rfl rfl ?_
      refine E_iload_n rfl rfl ?_
      refine E_callV (v := some (.int (-3))) (As := [.ref 65, .int 2]) (r0 := []) (cs2 := (w0.set 48 (.inl [0, 0, 0, 1, 0, 0, 0, 0]))) rfl rfl rfl (Nat.le_of_ble_eq_true rfl) rfl rfl c211_X6_wanted (by decide) rfl ?_
      refine E_istore (L2 := [some (.ref 65), some (.int 2), some (.int a2), some (.int 20), some (.int 1), some (.int (-3))]) rfl rfl ?_
      refine E_iload rfl rfl ?_
      refine E_if (t := 17) (b := false) rfl rfl (by decide) ?_
      refine E_iload rfl rfl ?_
      refine E_goto (t := 59) rfl rfl ?_
      exact E_iret rfl rfl
    refine E_callV (v := some (.int (-3))) (As := [.ref 65, .int 2, .int a2, .int 20, .int 1]) (r0 := []) (cs2 := (w0.set 48 (.inl [0, 0, 0, 1, 0, 0, 0, 0]))) rfl rfl rfl (Nat.le_of_ble_eq_true rfl) rfl rfl e6 (by decide) rfl ?_
    refine E_istore_n (L2 := [some (.ref 65), some (.int 2), some (.int a2), some (.int (-3))]) rfl rfl ?_
    refine E_iload_n rfl rfl ?_
    refine E_if (t := 20) (b := false) rfl rfl (by decide) ?_
    refine E_aload_n rfl rfl ?_
    refine E_iload_n rfl rfl ?_
    refine E_callV (v := some (.int (-3))) (As := [.ref 65, .int (-3)]) (r0 := []) (cs2 := ((w0.set 48 (.inl [0, 0, 0, 1, 0, 0, 0, 0])).set 66 (.inl [0, 0, 0, 1, 0, 0, 0, 0]))) rfl rfl rfl (Nat.le_of_ble_eq_true rfl) rfl rfl c35_X6_no (by decide) (by simp only [List.length_set]) ?_
    exact E_iret rfl rfl, (by simp only [List.length_set]; rfl), (by simp only [List.length_set]; rfl), ((ab_szs rfl).trans ((ab_szs rfl).trans rfl)), fun _ => rfl⟩
theorem f_done_5 (a2 : Int32) : p1_P 7 105 6 196 [.ref 0, .int 3, .int a2] [.ref 65, .int 3, .int a2] :=
  ⟨(-3), (w0.set 48 (.inl [0, 0, 0, 1, 0, 0, 0, 0])), ((w0.set 48 (.inl [0, 0, 0, 1, 0, 0, 0, 0])).set 66 (.inl [0, 0, 0, 1, 0, 0, 0, 0])), by
    refine Ef.in (md := mX5_done) (L := [some (.ref 0), some (.int 3), some (.int a2), none]) rfl (Nat.le_of_ble_eq_true rfl) rfl ?_
    refine E_aload_n rfl rfl ?_
    refine E_iload_n rfl rfl ?_
    refine E_iload_n rfl rfl ?_
    refine E_bipush (x := 20) rfl (by decide) ?_
    refine E_iconst (x := 0) rfl (by decide) ?_
    have e6 : Ev ab_Z0 3 120 [.ref 0, .int 3, .int a2, .int 20, .int 0] w0 (some (.int 3), w0) := by
      refine Ef.in (md := mX5_whyNoTwos) (L := [some (.ref 0), some (.int 3), some (.int a2), some (.int 20), some (.int 0), none]) rfl (Nat.le_of_ble_eq_true rfl) rfl ?_
      refine E_aload_n rfl rfl ?_
      refine E_iload_n rfl rfl ?_
      refine E_callV (v := some (.int 3)) (As := [.ref 0, .int 3]) (r0 := []) (cs2 := w0) rfl rfl rfl (Nat.le_of_ble_eq_true rfl) rfl rfl c44_X5_whyNoRow (by decide) rfl ?_
      refine E_istore (L2 := [some (.ref 0), some (.int 3), some (.int a2), some (.int 20), some (.int 0), some (.int 3)]) rfl rfl ?_
      refine E_iload rfl rfl ?_
      refine E_if (t := 15) (b := false) rfl rfl (by decide) ?_
      refine E_iload rfl rfl ?_
      exact E_iret rfl rfl
    refine E_callV (v := some (.int 3)) (As := [.ref 0, .int 3, .int a2, .int 20, .int 0]) (r0 := []) (cs2 := w0) rfl rfl rfl (Nat.le_of_ble_eq_true rfl) rfl rfl e6 (by decide) rfl ?_
    refine E_istore_n (L2 := [some (.ref 0), some (.int 3), some (.int a2), some (.int 3)]) rfl rfl ?_
    refine E_iload_n rfl rfl ?_
    refine E_if (t := 32) (b := true) rfl rfl (by decide) ?_
    refine E_iload_n rfl rfl ?_
    refine E_if (t := 42) (b := false) rfl rfl (by decide) ?_
    refine E_aload_n rfl rfl ?_
    refine E_iload_n rfl rfl ?_
    refine E_callV (v := some (.int (-3))) (As := [.ref 0, .int 3]) (r0 := []) (cs2 := (w0.set 48 (.inl [0, 0, 0, 1, 0, 0, 0, 0]))) rfl rfl rfl (Nat.le_of_ble_eq_true rfl) rfl rfl c32_X5_refuse (by decide) (by simp only [List.length_set]) ?_
    exact E_iret rfl rfl, by
    refine Ef.in (md := mX6_done) (L := [some (.ref 65), some (.int 3), some (.int a2), none]) rfl (Nat.le_of_ble_eq_true rfl) rfl ?_
    refine E_aload_n rfl rfl ?_
    refine E_iload_n rfl rfl ?_
    refine E_iload_n rfl rfl ?_
    refine E_bipush (x := 20) rfl (by decide) ?_
    refine E_iconst (x := 1) rfl (by decide) ?_
    have e6 : Ev ab_Z0 3 186 [.ref 65, .int 3, .int a2, .int 20, .int 1] (w0.set 48 (.inl [0, 0, 0, 1, 0, 0, 0, 0])) (some (.int (-3)), (w0.set 48 (.inl [0, 0, 0, 1, 0, 0, 0, 0]))) := by
      refine Ef.in (md := mX6_barsOf) (L := [some (.ref 65), some (.int 3), some (.int a2), some (.int 20), some (.int 1), none]) rfl (Nat.le_of_ble_eq_true rfl) rfl ?_
      refine E_aload_n rfl rfl ?_
      refine E_iload_n rfl rfl ?_
      refine E_callV (v := some (.int (-3))) (As := [.ref 65, .int 3]) (r0 := []) (cs2 := (w0.set 48 (.inl [0, 0, 0, 1, 0, 0, 0, 0]))) rfl rfl rfl (Nat.le_of_ble_eq_true rfl) rfl rfl c214_X6_wanted (by decide) rfl ?_
      refine E_istore (L2 := [some (.ref 65), some (.int 3), some (.int a2), some (.int 20), some (.int 1), some (.int (-3))]) rfl rfl ?_
      refine E_iload rfl rfl ?_
      refine E_if (t := 17) (b := false) rfl rfl (by decide) ?_
      refine E_iload rfl rfl ?_
      refine E_goto (t := 59) rfl rfl ?_
      exact E_iret rfl rfl
    refine E_callV (v := some (.int (-3))) (As := [.ref 65, .int 3, .int a2, .int 20, .int 1]) (r0 := []) (cs2 := (w0.set 48 (.inl [0, 0, 0, 1, 0, 0, 0, 0]))) rfl rfl rfl (Nat.le_of_ble_eq_true rfl) rfl rfl e6 (by decide) rfl ?_
    refine E_istore_n (L2 := [some (.ref 65), some (.int 3), some (.int a2), some (.int (-3))]) rfl rfl ?_
    refine E_iload_n rfl rfl ?_
    refine E_if (t := 20) (b := false) rfl rfl (by decide) ?_
    refine E_aload_n rfl rfl ?_
    refine E_iload_n rfl rfl ?_
    refine E_callV (v := some (.int (-3))) (As := [.ref 65, .int (-3)]) (r0 := []) (cs2 := ((w0.set 48 (.inl [0, 0, 0, 1, 0, 0, 0, 0])).set 66 (.inl [0, 0, 0, 1, 0, 0, 0, 0]))) rfl rfl rfl (Nat.le_of_ble_eq_true rfl) rfl rfl c35_X6_no (by decide) (by simp only [List.length_set]) ?_
    exact E_iret rfl rfl, (by simp only [List.length_set]; rfl), (by simp only [List.length_set]; rfl), ((ab_szs rfl).trans ((ab_szs rfl).trans rfl)), fun _ => rfl⟩
theorem f_done_6 (a2 : Int32) : p1_P 7 105 6 196 [.ref 0, .int 4, .int a2] [.ref 65, .int 4, .int a2] :=
  ⟨(-3), (w0.set 48 (.inl [0, 0, 0, 1, 0, 0, 0, 0])), ((w0.set 48 (.inl [0, 0, 0, 1, 0, 0, 0, 0])).set 66 (.inl [0, 0, 0, 1, 0, 0, 0, 0])), by
    refine Ef.in (md := mX5_done) (L := [some (.ref 0), some (.int 4), some (.int a2), none]) rfl (Nat.le_of_ble_eq_true rfl) rfl ?_
    refine E_aload_n rfl rfl ?_
    refine E_iload_n rfl rfl ?_
    refine E_iload_n rfl rfl ?_
    refine E_bipush (x := 20) rfl (by decide) ?_
    refine E_iconst (x := 0) rfl (by decide) ?_
    have e6 : Ev ab_Z0 3 120 [.ref 0, .int 4, .int a2, .int 20, .int 0] w0 (some (.int 3), w0) := by
      refine Ef.in (md := mX5_whyNoTwos) (L := [some (.ref 0), some (.int 4), some (.int a2), some (.int 20), some (.int 0), none]) rfl (Nat.le_of_ble_eq_true rfl) rfl ?_
      refine E_aload_n rfl rfl ?_
      refine E_iload_n rfl rfl ?_
      refine E_callV (v := some (.int 3)) (As := [.ref 0, .int 4]) (r0 := []) (cs2 := w0) rfl rfl rfl (Nat.le_of_ble_eq_true rfl) rfl rfl c48_X5_whyNoRow (by decide) rfl ?_
      refine E_istore (L2 := [some (.ref 0), some (.int 4), some (.int a2), some (.int 20), some (.int 0), some (.int 3)]) rfl rfl ?_
      refine E_iload rfl rfl ?_
      refine E_if (t := 15) (b := false) rfl rfl (by decide) ?_
      refine E_iload rfl rfl ?_
      exact E_iret rfl rfl
    refine E_callV (v := some (.int 3)) (As := [.ref 0, .int 4, .int a2, .int 20, .int 0]) (r0 := []) (cs2 := w0) rfl rfl rfl (Nat.le_of_ble_eq_true rfl) rfl rfl e6 (by decide) rfl ?_
    refine E_istore_n (L2 := [some (.ref 0), some (.int 4), some (.int a2), some (.int 3)]) rfl rfl ?_
    refine E_iload_n rfl rfl ?_
    refine E_if (t := 32) (b := true) rfl rfl (by decide) ?_
    refine E_iload_n rfl rfl ?_
    refine E_if (t := 42) (b := false) rfl rfl (by decide) ?_
    refine E_aload_n rfl rfl ?_
    refine E_iload_n rfl rfl ?_
    refine E_callV (v := some (.int (-3))) (As := [.ref 0, .int 3]) (r0 := []) (cs2 := (w0.set 48 (.inl [0, 0, 0, 1, 0, 0, 0, 0]))) rfl rfl rfl (Nat.le_of_ble_eq_true rfl) rfl rfl c32_X5_refuse (by decide) (by simp only [List.length_set]) ?_
    exact E_iret rfl rfl, by
    refine Ef.in (md := mX6_done) (L := [some (.ref 65), some (.int 4), some (.int a2), none]) rfl (Nat.le_of_ble_eq_true rfl) rfl ?_
    refine E_aload_n rfl rfl ?_
    refine E_iload_n rfl rfl ?_
    refine E_iload_n rfl rfl ?_
    refine E_bipush (x := 20) rfl (by decide) ?_
    refine E_iconst (x := 1) rfl (by decide) ?_
    have e6 : Ev ab_Z0 3 186 [.ref 65, .int 4, .int a2, .int 20, .int 1] (w0.set 48 (.inl [0, 0, 0, 1, 0, 0, 0, 0])) (some (.int (-3)), (w0.set 48 (.inl [0, 0, 0, 1, 0, 0, 0, 0]))) := by
      refine Ef.in (md := mX6_barsOf) (L := [some (.ref 65), some (.int 4), some (.int a2), some (.int 20), some (.int 1), none]) rfl (Nat.le_of_ble_eq_true rfl) rfl ?_
      refine E_aload_n rfl rfl ?_
      refine E_iload_n rfl rfl ?_
      refine E_callV (v := some (.int (-3))) (As := [.ref 65, .int 4]) (r0 := []) (cs2 := (w0.set 48 (.inl [0, 0, 0, 1, 0, 0, 0, 0]))) rfl rfl rfl (Nat.le_of_ble_eq_true rfl) rfl rfl c217_X6_wanted (by decide) rfl ?_
      refine E_istore (L2 := [some (.ref 65), some (.int 4), some (.int a2), some (.int 20), some (.int 1), some (.int (-3))]) rfl rfl ?_
      refine E_iload rfl rfl ?_
      refine E_if (t := 17) (b := false) rfl rfl (by decide) ?_
      refine E_iload rfl rfl ?_
      refine E_goto (t := 59) rfl rfl ?_
      exact E_iret rfl rfl
    refine E_callV (v := some (.int (-3))) (As := [.ref 65, .int 4, .int a2, .int 20, .int 1]) (r0 := []) (cs2 := (w0.set 48 (.inl [0, 0, 0, 1, 0, 0, 0, 0]))) rfl rfl rfl (Nat.le_of_ble_eq_true rfl) rfl rfl e6 (by decide) rfl ?_
    refine E_istore_n (L2 := [some (.ref 65), some (.int 4), some (.int a2), some (.int (-3))]) rfl rfl ?_
    refine E_iload_n rfl rfl ?_
    refine E_if (t := 20) (b := false) rfl rfl (by decide) ?_
    refine E_aload_n rfl rfl ?_
    refine E_iload_n rfl rfl ?_
    refine E_callV (v := some (.int (-3))) (As := [.ref 65, .int (-3)]) (r0 := []) (cs2 := ((w0.set 48 (.inl [0, 0, 0, 1, 0, 0, 0, 0])).set 66 (.inl [0, 0, 0, 1, 0, 0, 0, 0]))) rfl rfl rfl (Nat.le_of_ble_eq_true rfl) rfl rfl c35_X6_no (by decide) (by simp only [List.length_set]) ?_
    exact E_iret rfl rfl, (by simp only [List.length_set]; rfl), (by simp only [List.length_set]; rfl), ((ab_szs rfl).trans ((ab_szs rfl).trans rfl)), fun _ => rfl⟩
theorem f_done_7 (a2 : Int32) : p1_P 7 105 6 196 [.ref 0, .int 5, .int a2] [.ref 65, .int 5, .int a2] :=
  ⟨(-3), (w0.set 48 (.inl [0, 0, 0, 1, 0, 0, 0, 0])), ((w0.set 48 (.inl [0, 0, 0, 1, 0, 0, 0, 0])).set 66 (.inl [0, 0, 0, 1, 0, 0, 0, 0])), by
    refine Ef.in (md := mX5_done) (L := [some (.ref 0), some (.int 5), some (.int a2), none]) rfl (Nat.le_of_ble_eq_true rfl) rfl ?_
    refine E_aload_n rfl rfl ?_
    refine E_iload_n rfl rfl ?_
    refine E_iload_n rfl rfl ?_
    refine E_bipush (x := 20) rfl (by decide) ?_
    refine E_iconst (x := 0) rfl (by decide) ?_
    have e6 : Ev ab_Z0 3 120 [.ref 0, .int 5, .int a2, .int 20, .int 0] w0 (some (.int 3), w0) := by
      refine Ef.in (md := mX5_whyNoTwos) (L := [some (.ref 0), some (.int 5), some (.int a2), some (.int 20), some (.int 0), none]) rfl (Nat.le_of_ble_eq_true rfl) rfl ?_
      refine E_aload_n rfl rfl ?_
      refine E_iload_n rfl rfl ?_
      refine E_callV (v := some (.int 3)) (As := [.ref 0, .int 5]) (r0 := []) (cs2 := w0) rfl rfl rfl (Nat.le_of_ble_eq_true rfl) rfl rfl c52_X5_whyNoRow (by decide) rfl ?_
      refine E_istore (L2 := [some (.ref 0), some (.int 5), some (.int a2), some (.int 20), some (.int 0), some (.int 3)]) rfl rfl ?_
      refine E_iload rfl rfl ?_
      refine E_if (t := 15) (b := false) rfl rfl (by decide) ?_
      refine E_iload rfl rfl ?_
      exact E_iret rfl rfl
    refine E_callV (v := some (.int 3)) (As := [.ref 0, .int 5, .int a2, .int 20, .int 0]) (r0 := []) (cs2 := w0) rfl rfl rfl (Nat.le_of_ble_eq_true rfl) rfl rfl e6 (by decide) rfl ?_
    refine E_istore_n (L2 := [some (.ref 0), some (.int 5), some (.int a2), some (.int 3)]) rfl rfl ?_
    refine E_iload_n rfl rfl ?_
    refine E_if (t := 32) (b := true) rfl rfl (by decide) ?_
    refine E_iload_n rfl rfl ?_
    refine E_if (t := 42) (b := false) rfl rfl (by decide) ?_
    refine E_aload_n rfl rfl ?_
    refine E_iload_n rfl rfl ?_
    refine E_callV (v := some (.int (-3))) (As := [.ref 0, .int 3]) (r0 := []) (cs2 := (w0.set 48 (.inl [0, 0, 0, 1, 0, 0, 0, 0]))) rfl rfl rfl (Nat.le_of_ble_eq_true rfl) rfl rfl c32_X5_refuse (by decide) (by simp only [List.length_set]) ?_
    exact E_iret rfl rfl, by
    refine Ef.in (md := mX6_done) (L := [some (.ref 65), some (.int 5), some (.int a2), none]) rfl (Nat.le_of_ble_eq_true rfl) rfl ?_
    refine E_aload_n rfl rfl ?_
    refine E_iload_n rfl rfl ?_
    refine E_iload_n rfl rfl ?_
    refine E_bipush (x := 20) rfl (by decide) ?_
    refine E_iconst (x := 1) rfl (by decide) ?_
    have e6 : Ev ab_Z0 3 186 [.ref 65, .int 5, .int a2, .int 20, .int 1] (w0.set 48 (.inl [0, 0, 0, 1, 0, 0, 0, 0])) (some (.int (-3)), (w0.set 48 (.inl [0, 0, 0, 1, 0, 0, 0, 0]))) := by
      refine Ef.in (md := mX6_barsOf) (L := [some (.ref 65), some (.int 5), some (.int a2), some (.int 20), some (.int 1), none]) rfl (Nat.le_of_ble_eq_true rfl) rfl ?_
      refine E_aload_n rfl rfl ?_
      refine E_iload_n rfl rfl ?_
      refine E_callV (v := some (.int (-3))) (As := [.ref 65, .int 5]) (r0 := []) (cs2 := (w0.set 48 (.inl [0, 0, 0, 1, 0, 0, 0, 0]))) rfl rfl rfl (Nat.le_of_ble_eq_true rfl) rfl rfl c220_X6_wanted (by decide) rfl ?_
      refine E_istore (L2 := [some (.ref 65), some (.int 5), some (.int a2), some (.int 20), some (.int 1), some (.int (-3))]) rfl rfl ?_
      refine E_iload rfl rfl ?_
      refine E_if (t := 17) (b := false) rfl rfl (by decide) ?_
      refine E_iload rfl rfl ?_
      refine E_goto (t := 59) rfl rfl ?_
      exact E_iret rfl rfl
    refine E_callV (v := some (.int (-3))) (As := [.ref 65, .int 5, .int a2, .int 20, .int 1]) (r0 := []) (cs2 := (w0.set 48 (.inl [0, 0, 0, 1, 0, 0, 0, 0]))) rfl rfl rfl (Nat.le_of_ble_eq_true rfl) rfl rfl e6 (by decide) rfl ?_
    refine E_istore_n (L2 := [some (.ref 65), some (.int 5), some (.int a2), some (.int (-3))]) rfl rfl ?_
    refine E_iload_n rfl rfl ?_
    refine E_if (t := 20) (b := false) rfl rfl (by decide) ?_
    refine E_aload_n rfl rfl ?_
    refine E_iload_n rfl rfl ?_
    refine E_callV (v := some (.int (-3))) (As := [.ref 65, .int (-3)]) (r0 := []) (cs2 := ((w0.set 48 (.inl [0, 0, 0, 1, 0, 0, 0, 0])).set 66 (.inl [0, 0, 0, 1, 0, 0, 0, 0]))) rfl rfl rfl (Nat.le_of_ble_eq_true rfl) rfl rfl c35_X6_no (by decide) (by simp only [List.length_set]) ?_
    exact E_iret rfl rfl, (by simp only [List.length_set]; rfl), (by simp only [List.length_set]; rfl), ((ab_szs rfl).trans ((ab_szs rfl).trans rfl)), fun _ => rfl⟩
theorem f_done_8 (a2 : Int32) : p1_P 7 105 6 196 [.ref 0, .int 6, .int a2] [.ref 65, .int 6, .int a2] :=
  ⟨(-3), (w0.set 48 (.inl [0, 0, 0, 1, 0, 0, 0, 0])), ((w0.set 48 (.inl [0, 0, 0, 1, 0, 0, 0, 0])).set 66 (.inl [0, 0, 0, 1, 0, 0, 0, 0])), by
    refine Ef.in (md := mX5_done) (L := [some (.ref 0), some (.int 6), some (.int a2), none]) rfl (Nat.le_of_ble_eq_true rfl) rfl ?_
    refine E_aload_n rfl rfl ?_
    refine E_iload_n rfl rfl ?_
    refine E_iload_n rfl rfl ?_
    refine E_bipush (x := 20) rfl (by decide) ?_
    refine E_iconst (x := 0) rfl (by decide) ?_
    have e6 : Ev ab_Z0 3 120 [.ref 0, .int 6, .int a2, .int 20, .int 0] w0 (some (.int 3), w0) := by
      refine Ef.in (md := mX5_whyNoTwos) (L := [some (.ref 0), some (.int 6), some (.int a2), some (.int 20), some (.int 0), none]) rfl (Nat.le_of_ble_eq_true rfl) rfl ?_
      refine E_aload_n rfl rfl ?_
      refine E_iload_n rfl rfl ?_
      refine E_callV (v := some (.int 3)) (As := [.ref 0, .int 6]) (r0 := []) (cs2 := w0) rfl rfl rfl (Nat.le_of_ble_eq_true rfl) rfl rfl c56_X5_whyNoRow (by decide) rfl ?_
      refine E_istore (L2 := [some (.ref 0), some (.int 6), some (.int a2), some (.int 20), some (.int 0), some (.int 3)]) rfl rfl ?_
      refine E_iload rfl rfl ?_
      refine E_if (t := 15) (b := false) rfl rfl (by decide) ?_
      refine E_iload rfl rfl ?_
      exact E_iret rfl rfl
    refine E_callV (v := some (.int 3)) (As := [.ref 0, .int 6, .int a2, .int 20, .int 0]) (r0 := []) (cs2 := w0) rfl rfl rfl (Nat.le_of_ble_eq_true rfl) rfl rfl e6 (by decide) rfl ?_
    refine E_istore_n (L2 := [some (.ref 0), some (.int 6), some (.int a2), some (.int 3)]) rfl rfl ?_
    refine E_iload_n rfl rfl ?_
    refine E_if (t := 32) (b := true) rfl rfl (by decide) ?_
    refine E_iload_n rfl rfl ?_
    refine E_if (t := 42) (b := false) rfl rfl (by decide) ?_
    refine E_aload_n rfl rfl ?_
    refine E_iload_n rfl rfl ?_
    refine E_callV (v := some (.int (-3))) (As := [.ref 0, .int 3]) (r0 := []) (cs2 := (w0.set 48 (.inl [0, 0, 0, 1, 0, 0, 0, 0]))) rfl rfl rfl (Nat.le_of_ble_eq_true rfl) rfl rfl c32_X5_refuse (by decide) (by simp only [List.length_set]) ?_
    exact E_iret rfl rfl, by
    refine Ef.in (md := mX6_done) (L := [some (.ref 65), some (.int 6), some (.int a2), none]) rfl (Nat.le_of_ble_eq_true rfl) rfl ?_
    refine E_aload_n rfl rfl ?_
    refine E_iload_n rfl rfl ?_
    refine E_iload_n rfl rfl ?_
    refine E_bipush (x := 20) rfl (by decide) ?_
    refine E_iconst (x := 1) rfl (by decide) ?_
    have e6 : Ev ab_Z0 3 186 [.ref 65, .int 6, .int a2, .int 20, .int 1] (w0.set 48 (.inl [0, 0, 0, 1, 0, 0, 0, 0])) (some (.int (-3)), (w0.set 48 (.inl [0, 0, 0, 1, 0, 0, 0, 0]))) := by
      refine Ef.in (md := mX6_barsOf) (L := [some (.ref 65), some (.int 6), some (.int a2), some (.int 20), some (.int 1), none]) rfl (Nat.le_of_ble_eq_true rfl) rfl ?_
      refine E_aload_n rfl rfl ?_
      refine E_iload_n rfl rfl ?_
      refine E_callV (v := some (.int (-3))) (As := [.ref 65, .int 6]) (r0 := []) (cs2 := (w0.set 48 (.inl [0, 0, 0, 1, 0, 0, 0, 0]))) rfl rfl rfl (Nat.le_of_ble_eq_true rfl) rfl rfl c223_X6_wanted (by decide) rfl ?_
      refine E_istore (L2 := [some (.ref 65), some (.int 6), some (.int a2), some (.int 20), some (.int 1), some (.int (-3))]) rfl rfl ?_
      refine E_iload rfl rfl ?_
      refine E_if (t := 17) (b := false) rfl rfl (by decide) ?_
      refine E_iload rfl rfl ?_
      refine E_goto (t := 59) rfl rfl ?_
      exact E_iret rfl rfl
    refine E_callV (v := some (.int (-3))) (As := [.ref 65, .int 6, .int a2, .int 20, .int 1]) (r0 := []) (cs2 := (w0.set 48 (.inl [0, 0, 0, 1, 0, 0, 0, 0]))) rfl rfl rfl (Nat.le_of_ble_eq_true rfl) rfl rfl e6 (by decide) rfl ?_
    refine E_istore_n (L2 := [some (.ref 65), some (.int 6), some (.int a2), some (.int (-3))]) rfl rfl ?_
    refine E_iload_n rfl rfl ?_
    refine E_if (t := 20) (b := false) rfl rfl (by decide) ?_
    refine E_aload_n rfl rfl ?_
    refine E_iload_n rfl rfl ?_
    refine E_callV (v := some (.int (-3))) (As := [.ref 65, .int (-3)]) (r0 := []) (cs2 := ((w0.set 48 (.inl [0, 0, 0, 1, 0, 0, 0, 0])).set 66 (.inl [0, 0, 0, 1, 0, 0, 0, 0]))) rfl rfl rfl (Nat.le_of_ble_eq_true rfl) rfl rfl c35_X6_no (by decide) (by simp only [List.length_set]) ?_
    exact E_iret rfl rfl, (by simp only [List.length_set]; rfl), (by simp only [List.length_set]; rfl), ((ab_szs rfl).trans ((ab_szs rfl).trans rfl)), fun _ => rfl⟩
theorem f_done_9 (a2 : Int32) : p1_P 7 105 6 196 [.ref 0, .int 7, .int a2] [.ref 65, .int 7, .int a2] :=
  ⟨(-3), (w0.set 48 (.inl [0, 0, 0, 1, 0, 0, 0, 0])), ((w0.set 48 (.inl [0, 0, 0, 1, 0, 0, 0, 0])).set 66 (.inl [0, 0, 0, 1, 0, 0, 0, 0])), by
    refine Ef.in (md := mX5_done) (L := [some (.ref 0), some (.int 7), some (.int a2), none]) rfl (Nat.le_of_ble_eq_true rfl) rfl ?_
    refine E_aload_n rfl rfl ?_
    refine E_iload_n rfl rfl ?_
    refine E_iload_n rfl rfl ?_
    refine E_bipush (x := 20) rfl (by decide) ?_
    refine E_iconst (x := 0) rfl (by decide) ?_
    have e6 : Ev ab_Z0 3 120 [.ref 0, .int 7, .int a2, .int 20, .int 0] w0 (some (.int 3), w0) := by
      refine Ef.in (md := mX5_whyNoTwos) (L := [some (.ref 0), some (.int 7), some (.int a2), some (.int 20), some (.int 0), none]) rfl (Nat.le_of_ble_eq_true rfl) rfl ?_
      refine E_aload_n rfl rfl ?_
      refine E_iload_n rfl rfl ?_
      refine E_callV (v := some (.int 3)) (As := [.ref 0, .int 7]) (r0 := []) (cs2 := w0) rfl rfl rfl (Nat.le_of_ble_eq_true rfl) rfl rfl c60_X5_whyNoRow (by decide) rfl ?_
      refine E_istore (L2 := [some (.ref 0), some (.int 7), some (.int a2), some (.int 20), some (.int 0), some (.int 3)]) rfl rfl ?_
      refine E_iload rfl rfl ?_
      refine E_if (t := 15) (b := false) rfl rfl (by decide) ?_
      refine E_iload rfl rfl ?_
      exact E_iret rfl rfl
    refine E_callV (v := some (.int 3)) (As := [.ref 0, .int 7, .int a2, .int 20, .int 0]) (r0 := []) (cs2 := w0) rfl rfl rfl (Nat.le_of_ble_eq_true rfl) rfl rfl e6 (by decide) rfl ?_
    refine E_istore_n (L2 := [some (.ref 0), some (.int 7), some (.int a2), some (.int 3)]) rfl rfl ?_
    refine E_iload_n rfl rfl ?_
    refine E_if (t := 32) (b := true) rfl rfl (by decide) ?_
    refine E_iload_n rfl rfl ?_
    refine E_if (t := 42) (b := false) rfl rfl (by decide) ?_
    refine E_aload_n rfl rfl ?_
    refine E_iload_n rfl rfl ?_
    refine E_callV (v := some (.int (-3))) (As := [.ref 0, .int 3]) (r0 := []) (cs2 := (w0.set 48 (.inl [0, 0, 0, 1, 0, 0, 0, 0]))) rfl rfl rfl (Nat.le_of_ble_eq_true rfl) rfl rfl c32_X5_refuse (by decide) (by simp only [List.length_set]) ?_
    exact E_iret rfl rfl, by
    refine Ef.in (md := mX6_done) (L := [some (.ref 65), some (.int 7), some (.int a2), none]) rfl (Nat.le_of_ble_eq_true rfl) rfl ?_
    refine E_aload_n rfl rfl ?_
    refine E_iload_n rfl rfl ?_
    refine E_iload_n rfl rfl ?_
    refine E_bipush (x := 20) rfl (by decide) ?_
    refine E_iconst (x := 1) rfl (by decide) ?_
    have e6 : Ev ab_Z0 3 186 [.ref 65, .int 7, .int a2, .int 20, .int 1] (w0.set 48 (.inl [0, 0, 0, 1, 0, 0, 0, 0])) (some (.int (-3)), (w0.set 48 (.inl [0, 0, 0, 1, 0, 0, 0, 0]))) := by
      refine Ef.in (md := mX6_barsOf) (L := [some (.ref 65), some (.int 7), some (.int a2), some (.int 20), some (.int 1), none]) rfl (Nat.le_of_ble_eq_true rfl) rfl ?_
      refine E_aload_n rfl rfl ?_
      refine E_iload_n rfl rfl ?_
      refine E_callV (v := some (.int (-3))) (As := [.ref 65, .int 7]) (r0 := []) (cs2 := (w0.set 48 (.inl [0, 0, 0, 1, 0, 0, 0, 0]))) rfl rfl rfl (Nat.le_of_ble_eq_true rfl) rfl rfl c226_X6_wanted (by decide) rfl ?_
      refine E_istore (L2 := [some (.ref 65), some (.int 7), some (.int a2), some (.int 20), some (.int 1), some (.int (-3))]) rfl rfl ?_
      refine E_iload rfl rfl ?_
      refine E_if (t := 17) (b := false) rfl rfl (by decide) ?_
      refine E_iload rfl rfl ?_
      refine E_goto (t := 59) rfl rfl ?_
      exact E_iret rfl rfl
    refine E_callV (v := some (.int (-3))) (As := [.ref 65, .int 7, .int a2, .int 20, .int 1]) (r0 := []) (cs2 := (w0.set 48 (.inl [0, 0, 0, 1, 0, 0, 0, 0]))) rfl rfl rfl (Nat.le_of_ble_eq_true rfl) rfl rfl e6 (by decide) rfl ?_
    refine E_istore_n (L2 := [some (.ref 65), some (.int 7), some (.int a2), some (.int (-3))]) rfl rfl ?_
    refine E_iload_n rfl rfl ?_
    refine E_if (t := 20) (b := false) rfl rfl (by decide) ?_
    refine E_aload_n rfl rfl ?_
    refine E_iload_n rfl rfl ?_
    refine E_callV (v := some (.int (-3))) (As := [.ref 65, .int (-3)]) (r0 := []) (cs2 := ((w0.set 48 (.inl [0, 0, 0, 1, 0, 0, 0, 0])).set 66 (.inl [0, 0, 0, 1, 0, 0, 0, 0]))) rfl rfl rfl (Nat.le_of_ble_eq_true rfl) rfl rfl c35_X6_no (by decide) (by simp only [List.length_set]) ?_
    exact E_iret rfl rfl, (by simp only [List.length_set]; rfl), (by simp only [List.length_set]; rfl), ((ab_szs rfl).trans ((ab_szs rfl).trans rfl)), fun _ => rfl⟩
theorem f_done_10 (a1 a2 : Int32) (ha1l : (8 : Int) ≤ a1.toInt) : p1_P 7 105 6 196 [.ref 0, .int a1, .int a2] [.ref 65, .int a1, .int a2] :=
  ⟨(-1), (w0.set 48 (.inl [0, 1, 0, 0, 0, 0, 0, 0])), ((w0.set 48 (.inl [0, 1, 0, 0, 0, 0, 0, 0])).set 66 (.inl [0, 1, 0, 0, 0, 0, 0, 0])), by
    refine Ef.in (md := mX5_done) (L := [some (.ref 0), some (.int a1), some (.int a2), none]) rfl (Nat.le_of_ble_eq_true rfl) rfl ?_
    refine E_aload_n rfl rfl ?_
    refine E_iload_n rfl rfl ?_
    refine E_iload_n rfl rfl ?_
    refine E_bipush (x := 20) rfl (by decide) ?_
    refine E_iconst (x := 0) rfl (by decide) ?_
    have e6 : Ev ab_Z0 3 120 [.ref 0, .int a1, .int a2, .int 20, .int 0] w0 (some (.int 1), w0) := by
      refine Ef.in (md := mX5_whyNoTwos) (L := [some (.ref 0), some (.int a1), some (.int a2), some (.int 20), some (.int 0), none]) rfl (Nat.le_of_ble_eq_true rfl) rfl ?_
      refine E_aload_n rfl rfl ?_
      refine E_iload_n rfl rfl ?_
      have e3 : Ev ab_Z0 2 119 [.ref 0, .int a1] w0 (some (.int 1), w0) := by
        refine Ef.in (md := mX5_whyNoRow) (L := [some (.ref 0), some (.int a1)]) rfl (Nat.le_of_ble_eq_true rfl) rfl ?_
        refine E_iload_n rfl rfl ?_
        have e2 : Ev ab_Z0 1 117 [.int a1] w0 (some (.int 0), w0) := by
          refine Ef.in (md := mX5_isShelf) (L := [some (.int a1)]) rfl (Nat.le_of_ble_eq_true rfl) rfl ?_
          refine E_iload_n rfl rfl ?_
          refine E_if (t := 14) (b := false) rfl rfl ((cn_lt (rfl : (a1).toInt = (a1).toInt) (by decide : (0 : Int32).toInt = 0)).trans (decide_eq_false (by omega))) ?_
          refine E_iload_n rfl rfl ?_
          refine E_bipush (x := 8) rfl (by decide) ?_
          refine E_ic (t := 14) (b := true) rfl rfl ((cn_ge (rfl : (a1).toInt = (a1).toInt) (by decide : (8 : Int32).toInt = 8)).trans (decide_eq_true (by omega))) ?_
          refine E_iconst (x := 0) rfl (by decide) ?_
          exact E_iret rfl rfl
        refine E_callS (v := some (.int 0)) (As := [.int a1]) (r0 := []) (cs2 := w0) rfl rfl rfl (Nat.le_of_ble_eq_true rfl) rfl e2 (by decide) rfl ?_
        refine E_if (t := 9) (b := false) rfl rfl (by decide) ?_
        refine E_iconst (x := 1) rfl (by decide) ?_
        exact E_iret rfl rfl
      refine E_callV (v := some (.int 1)) (As := [.ref 0, .int a1]) (r0 := []) (cs2 := w0) rfl rfl rfl (Nat.le_of_ble_eq_true rfl) rfl rfl e3 (by decide) rfl ?_
      refine E_istore (L2 := [some (.ref 0), some (.int a1), some (.int a2), some (.int 20), some (.int 0), some (.int 1)]) rfl rfl ?_
      refine E_iload rfl rfl ?_
      refine E_if (t := 15) (b := false) rfl rfl (by decide) ?_
      refine E_iload rfl rfl ?_
      exact E_iret rfl rfl
    refine E_callV (v := some (.int 1)) (As := [.ref 0, .int a1, .int a2, .int 20, .int 0]) (r0 := []) (cs2 := w0) rfl rfl rfl (Nat.le_of_ble_eq_true rfl) rfl rfl e6 (by decide) rfl ?_
    refine E_istore_n (L2 := [some (.ref 0), some (.int a1), some (.int a2), some (.int 1)]) rfl rfl ?_
    refine E_iload_n rfl rfl ?_
    refine E_if (t := 32) (b := true) rfl rfl (by decide) ?_
    refine E_iload_n rfl rfl ?_
    refine E_if (t := 42) (b := false) rfl rfl (by decide) ?_
    refine E_aload_n rfl rfl ?_
    refine E_iload_n rfl rfl ?_
    refine E_callV (v := some (.int (-1))) (As := [.ref 0, .int 1]) (r0 := []) (cs2 := (w0.set 48 (.inl [0, 1, 0, 0, 0, 0, 0, 0]))) rfl rfl rfl (Nat.le_of_ble_eq_true rfl) rfl rfl c1_X5_refuse (by decide) (by simp only [List.length_set]) ?_
    exact E_iret rfl rfl, by
    refine Ef.in (md := mX6_done) (L := [some (.ref 65), some (.int a1), some (.int a2), none]) rfl (Nat.le_of_ble_eq_true rfl) rfl ?_
    refine E_aload_n rfl rfl ?_
    refine E_iload_n rfl rfl ?_
    refine E_iload_n rfl rfl ?_
    refine E_bipush (x := 20) rfl (by decide) ?_
    refine E_iconst (x := 1) rfl (by decide) ?_
    have e6 : Ev ab_Z0 3 186 [.ref 65, .int a1, .int a2, .int 20, .int 1] (w0.set 48 (.inl [0, 1, 0, 0, 0, 0, 0, 0])) (some (.int (-1)), (w0.set 48 (.inl [0, 1, 0, 0, 0, 0, 0, 0]))) := by
      refine Ef.in (md := mX6_barsOf) (L := [some (.ref 65), some (.int a1), some (.int a2), some (.int 20), some (.int 1), none]) rfl (Nat.le_of_ble_eq_true rfl) rfl ?_
      refine E_aload_n rfl rfl ?_
      refine E_iload_n rfl rfl ?_
      have e3 : Ev ab_Z0 2 142 [.ref 65, .int a1] (w0.set 48 (.inl [0, 1, 0, 0, 0, 0, 0, 0])) (some (.int (-1)), (w0.set 48 (.inl [0, 1, 0, 0, 0, 0, 0, 0]))) := by
        refine Ef.in (md := mX6_wanted) (L := [some (.ref 65), some (.int a1)]) rfl (Nat.le_of_ble_eq_true rfl) rfl ?_
        refine E_aload_n rfl rfl ?_
        refine E_iload_n rfl rfl ?_
        have e3 : Ev ab_Z0 1 131 [.ref 65, .int a1] (w0.set 48 (.inl [0, 1, 0, 0, 0, 0, 0, 0])) (some (.int 0), (w0.set 48 (.inl [0, 1, 0, 0, 0, 0, 0, 0]))) := by
          refine Ef.in (md := mX6_isShelf) (L := [some (.ref 65), some (.int a1)]) rfl (Nat.le_of_ble_eq_true rfl) rfl ?_
          refine E_iload_n rfl rfl ?_
          refine E_if (t := 14) (b := false) rfl rfl ((cn_lt (rfl : (a1).toInt = (a1).toInt) (by decide : (0 : Int32).toInt = 0)).trans (decide_eq_false (by omega))) ?_
          refine E_iload_n rfl rfl ?_
          refine E_bipush (x := 8) rfl (by decide) ?_
          refine E_ic (t := 14) (b := true) rfl rfl ((cn_ge (rfl : (a1).toInt = (a1).toInt) (by decide : (8 : Int32).toInt = 8)).trans (decide_eq_true (by omega))) ?_
          refine E_iconst (x := 0) rfl (by decide) ?_
          exact E_iret rfl rfl
        refine E_callV (v := some (.int 0)) (As := [.ref 65, .int a1]) (r0 := []) (cs2 := (w0.set 48 (.inl [0, 1, 0, 0, 0, 0, 0, 0]))) rfl rfl rfl (Nat.le_of_ble_eq_true rfl) rfl rfl e3 (by decide) rfl ?_
        refine E_if (t := 12) (b := false) rfl rfl (by decide) ?_
        refine E_iconst (x := (-1)) rfl (by decide) ?_
        refine E_goto (t := 42) rfl rfl ?_
        exact E_iret rfl rfl
      refine E_callV (v := some (.int (-1))) (As := [.ref 65, .int a1]) (r0 := []) (cs2 := (w0.set 48 (.inl [0, 1, 0, 0, 0, 0, 0, 0]))) rfl rfl rfl (Nat.le_of_ble_eq_true rfl) rfl rfl e3 (by decide) rfl ?_
      refine E_istore (L2 := [some (.ref 65), some (.int a1), some (.int a2), some (.int 20), some (.int 1), some (.int (-1))]) rfl rfl ?_
      refine E_iload rfl rfl ?_
      refine E_if (t := 17) (b := false) rfl rfl (by decide) ?_
      refine E_iload rfl rfl ?_
      refine E_goto (t := 59) rfl rfl ?_
      exact E_iret rfl rfl
    refine E_callV (v := some (.int (-1))) (As := [.ref 65, .int a1, .int a2, .int 20, .int 1]) (r0 := []) (cs2 := (w0.set 48 (.inl [0, 1, 0, 0, 0, 0, 0, 0]))) rfl rfl rfl (Nat.le_of_ble_eq_true rfl) rfl rfl e6 (by decide) rfl ?_
    refine E_istore_n (L2 := [some (.ref 65), some (.int a1), some (.int a2), some (.int (-1))]) rfl rfl ?_
    refine E_iload_n rfl rfl ?_
    refine E_if (t := 20) (b := false) rfl rfl (by decide) ?_
    refine E_aload_n rfl rfl ?_
    refine E_iload_n rfl rfl ?_
    refine E_callV (v := some (.int (-1))) (As := [.ref 65, .int (-1)]) (r0 := []) (cs2 := ((w0.set 48 (.inl [0, 1, 0, 0, 0, 0, 0, 0])).set 66 (.inl [0, 1, 0, 0, 0, 0, 0, 0]))) rfl rfl rfl (Nat.le_of_ble_eq_true rfl) rfl rfl c3_X6_no (by decide) (by simp only [List.length_set]) ?_
    exact E_iret rfl rfl, (by simp only [List.length_set]; rfl), (by simp only [List.length_set]; rfl), ((ab_szs rfl).trans ((ab_szs rfl).trans rfl)), fun _ => rfl⟩
theorem f_done (a1 a2 : Int32) : p1_P 7 105 6 196 [.ref 0, .int a1, .int a2] [.ref 65, .int a1, .int a2] := by
  rcases ab_ltge a1.toInt (0) with h | h
  · exact f_done_1 a1 a2 (by omega)
  rcases ab_ltge a1.toInt (8) with h | h
  · rcases ab_ltge a1.toInt (1) with h | h
    · obtain rfl : a1 = 0 := Int32.toInt_inj.mp (by rw [show ((0 : Int32).toInt = 0) by decide]; omega)
      exact f_done_2 a2
    rcases ab_ltge a1.toInt (2) with h | h
    · obtain rfl : a1 = 1 := Int32.toInt_inj.mp (by rw [show ((1 : Int32).toInt = 1) by decide]; omega)
      exact f_done_3 a2
    rcases ab_ltge a1.toInt (3) with h | h
    · obtain rfl : a1 = 2 := Int32.toInt_inj.mp (by rw [show ((2 : Int32).toInt = 2) by decide]; omega)
      exact f_done_4 a2
    rcases ab_ltge a1.toInt (4) with h | h
    · obtain rfl : a1 = 3 := Int32.toInt_inj.mp (by rw [show ((3 : Int32).toInt = 3) by decide]; omega)
      exact f_done_5 a2
    rcases ab_ltge a1.toInt (5) with h | h
    · obtain rfl : a1 = 4 := Int32.toInt_inj.mp (by rw [show ((4 : Int32).toInt = 4) by decide]; omega)
      exact f_done_6 a2
    rcases ab_ltge a1.toInt (6) with h | h
    · obtain rfl : a1 = 5 := Int32.toInt_inj.mp (by rw [show ((5 : Int32).toInt = 5) by decide]; omega)
      exact f_done_7 a2
    rcases ab_ltge a1.toInt (7) with h | h
    · obtain rfl : a1 = 6 := Int32.toInt_inj.mp (by rw [show ((6 : Int32).toInt = 6) by decide]; omega)
      exact f_done_8 a2
    obtain rfl : a1 = 7 := Int32.toInt_inj.mp (by rw [show ((7 : Int32).toInt = 7) by decide]; omega)
    exact f_done_9 a2
  exact f_done_10 a1 a2 (by omega)
