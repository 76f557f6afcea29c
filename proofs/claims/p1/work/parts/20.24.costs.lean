theorem c258_X6_noTen : Ev ab_Z0 1 130 [.ref 65, .int (-3)] (w0.set 48 (.inl [0, 0, 0, 1, 0, 0, 0, 0])) (some (.int (-13)), ((w0.set 48 (.inl [0, 0, 0, 1, 0, 0, 0, 0])).set 66 (.inl [0, 0, 0, 1, 0, 0, 0, 0]))) := by
  refine Ef.in (md := mX6_noTen) (L := [some (.ref 65), some (.int (-3))]) rfl (Nat.le_of_ble_eq_true rfl) rfl ?_
  refine E_aload_n rfl rfl ?_
  refine E_getfield (v := .ref 66) rfl rfl rfl (by decide) rfl ?_
  refine E_iload_n rfl rfl ?_
  refine E_ineg (z := 3) rfl (by decide) ?_
  refine E_dup2 rfl ⟨rfl, rfl⟩ ?_
  refine E_iaload (x := 0) (j := 3) rfl rfl (by decide) (by decide) rfl ?_
  refine E_iconst (x := 1) rfl (by decide) ?_
  refine E_iadd (z := 1) rfl (by decide) ?_
  refine E_iastore (j := 3) (cs2 := ((w0.set 48 (.inl [0, 0, 0, 1, 0, 0, 0, 0])).set 66 (.inl [0, 0, 0, 1, 0, 0, 0, 0]))) rfl rfl (by decide) (by decide) (Nat.le_of_ble_eq_true rfl) rfl ?_
  refine E_iload_n rfl rfl ?_
  refine E_bipush (x := 10) rfl (by decide) ?_
  refine E_isub (z := (-13)) rfl (by decide) ?_
  exact E_iret rfl rfl
theorem f_costs_1 (a1 a2 a3 a4 : Int32) (ha2h : a2.toInt ≤ 0) (ha3h : a3.toInt ≤ -1) : p1_P 6 100 4 188 [.ref 0, .int a1, .int a2, .int a3, .int a4] [.ref 65, .int a1, .int a2, .int a3, .int a4] :=
  ⟨(-11), (w0.set 48 (.inl [0, 1, 0, 0, 0, 0, 0, 0])), ((w0.set 48 (.inl [0, 1, 0, 0, 0, 0, 0, 0])).set 66 (.inl [0, 1, 0, 0, 0, 0, 0, 0])), by
    refine Ef.in (md := mX5_costs) (L := [some (.ref 0), some (.int a1), some (.int a2), some (.int a3), some (.int a4), none, none, none, none]) rfl (Nat.le_of_ble_eq_true rfl) rfl ?_
    refine E_iload_n rfl rfl ?_
    have e2 : Ev ab_Z0 1 47 [.int a3] w0 (some (.int 0), w0) := by
      refine Ef.in (md := mX4_isWish) (L := [some (.int a3)]) rfl (Nat.le_of_ble_eq_true rfl) rfl ?_
      refine E_iload_n rfl rfl ?_
      refine E_if (t := 14) (b := true) rfl rfl ((cn_lt (rfl : (a3).toInt = (a3).toInt) (by decide : (0 : Int32).toInt = 0)).trans (decide_eq_true (by omega))) ?_
      refine E_iconst (x := 0) rfl (by decide) ?_
      exact E_iret rfl rfl
    refine E_callS (v := some (.int 0)) (As := [.int a3]) (r0 := []) (cs2 := w0) rfl rfl rfl (Nat.le_of_ble_eq_true rfl) rfl e2 (by decide) rfl ?_
    refine E_if (t := 31) (b := true) rfl rfl (by decide) ?_
    refine E_iconst (x := 1) rfl (by decide) ?_
    refine E_istore (L2 := [some (.ref 0), some (.int a1), some (.int a2), some (.int a3), some (.int a4), some (.int 1), none, none, none]) rfl rfl ?_
    refine E_iload rfl rfl ?_
    refine E_if (t := 56) (b := true) rfl rfl (by decide) ?_
    refine E_iload rfl rfl ?_
    refine E_if (t := 71) (b := false) rfl rfl (by decide) ?_
    refine E_aload_n rfl rfl ?_
    refine E_iload rfl rfl ?_
    refine E_callV (v := some (.int (-1))) (As := [.ref 0, .int 1]) (r0 := []) (cs2 := (w0.set 48 (.inl [0, 1, 0, 0, 0, 0, 0, 0]))) rfl rfl rfl (Nat.le_of_ble_eq_true rfl) rfl rfl c1_X5_refuse (by decide) (by simp only [List.length_set]) ?_
    refine E_bipush (x := 10) rfl (by decide) ?_
    refine E_isub (z := (-11)) rfl (by decide) ?_
    exact E_iret rfl rfl, by
    refine Ef.in (md := mX6_costs) (L := [some (.ref 65), some (.int a1), some (.int a2), some (.int a3), some (.int a4), none, none, none, none, none, none, none]) rfl (Nat.le_of_ble_eq_true rfl) rfl ?_
    refine E_aload_n rfl rfl ?_
    refine E_iload_n rfl rfl ?_
    refine E_iconst (x := 0) rfl (by decide) ?_
    refine E_bipush (x := 7) rfl (by decide) ?_
    have e5 : Ev ab_Z0 1 134 [.ref 65, .int a3, .int 0, .int 7] (w0.set 48 (.inl [0, 1, 0, 0, 0, 0, 0, 0])) (some (.int 0), (w0.set 48 (.inl [0, 1, 0, 0, 0, 0, 0, 0]))) := by
      refine Ef.in (md := mX6_isFrom) (L := [some (.ref 65), some (.int a3), some (.int 0), some (.int 7)]) rfl (Nat.le_of_ble_eq_true rfl) rfl ?_
      refine E_iload_n rfl rfl ?_
      refine E_iload_n rfl rfl ?_
      refine E_ic (t := 14) (b := true) rfl rfl ((cn_lt (rfl : (a3).toInt = (a3).toInt) (by decide : (0 : Int32).toInt = 0)).trans (decide_eq_true (by omega))) ?_
      refine E_iconst (x := 0) rfl (by decide) ?_
      exact E_iret rfl rfl
    refine E_callV (v := some (.int 0)) (As := [.ref 65, .int a3, .int 0, .int 7]) (r0 := []) (cs2 := (w0.set 48 (.inl [0, 1, 0, 0, 0, 0, 0, 0]))) rfl rfl rfl (Nat.le_of_ble_eq_true rfl) rfl rfl e5 (by decide) rfl ?_
    refine E_if (t := 15) (b := false) rfl rfl (by decide) ?_
    refine E_iconst (x := (-1)) rfl (by decide) ?_
    refine E_goto (t := 39) rfl rfl ?_
    refine E_istore (L2 := [some (.ref 65), some (.int a1), some (.int a2), some (.int a3), some (.int a4), some (.int (-1)), none, none, none, none, none, none]) rfl rfl ?_
    refine E_iconst (x := 0) rfl (by decide) ?_
    refine E_istore (L2 := [some (.ref 65), some (.int a1), some (.int a2), some (.int a3), some (.int a4), some (.int (-1)), some (.int 0), none, none, none, none, none]) rfl rfl ?_
    refine E_iload rfl rfl ?_
    refine E_iload_n rfl rfl ?_
    refine E_ic (t := 80) (b := true) rfl rfl ((cn_ge (by decide : (0 : Int32).toInt = 0) (rfl : (a2).toInt = (a2).toInt)).trans (decide_eq_true (by omega))) ?_
    refine E_iload rfl rfl ?_
    refine E_if (t := 92) (b := false) rfl rfl (by decide) ?_
    refine E_aload_n rfl rfl ?_
    refine E_iload rfl rfl ?_
    refine E_callV (v := some (.int (-11))) (As := [.ref 65, .int (-1)]) (r0 := []) (cs2 := ((w0.set 48 (.inl [0, 1, 0, 0, 0, 0, 0, 0])).set 66 (.inl [0, 1, 0, 0, 0, 0, 0, 0]))) rfl rfl rfl (Nat.le_of_ble_eq_true rfl) rfl rfl c247_X6_noTen (by decide) (by simp only [List.length_set]) ?_
    exact E_iret rfl rfl, (by simp only [List.length_set]; rfl), (by simp only [List.length_set]; rfl), ((ab_szs rfl).trans ((ab_szs rfl).trans rfl)), fun _ => rfl⟩
theorem f_costs_2 (a1 a2 a3 a4 : Int32) (ha2l : (1 : Int) ≤ a2.toInt) (ha3h : a3.toInt ≤ -1) : p1_P 6 100 4 188 [.ref 0, .int a1, .int a2, .int a3, .int a4] [.ref 65, .int a1, .int a2, .int a3, .int a4] :=
  ⟨(-11), (w0.set 48 (.inl [0, 1, 0, 0, 0, 0, 0, 0])), ((w0.set 48 (.inl [0, 1, 0, 0, 0, 0, 0, 0])).set 66 (.inl [0, 1, 0, 0, 0, 0, 0, 0])), by
    refine Ef.in (md := mX5_costs) (L := [some (.ref 0), some (.int a1), some (.int a2), some (.int a3), some (.int a4), none, none, none, none]) rfl (Nat.le_of_ble_eq_true rfl) rfl ?_
    refine E_iload_n rfl rfl ?_
    have e2 : Ev ab_Z0 1 47 [.int a3] w0 (some (.int 0), w0) := by
      refine Ef.in (md := mX4_isWish) (L := [some (.int a3)]) rfl (Nat.le_of_ble_eq_true rfl) rfl ?_
      refine E_iload_n rfl rfl ?_
      refine E_if (t := 14) (b := true) rfl rfl ((cn_lt (rfl : (a3).toInt = (a3).toInt) (by decide : (0 : Int32).toInt = 0)).trans (decide_eq_true (by omega))) ?_
      refine E_iconst (x := 0) rfl (by decide) ?_
      exact E_iret rfl rfl
    refine E_callS (v := some (.int 0)) (As := [.int a3]) (r0 := []) (cs2 := w0) rfl rfl rfl (Nat.le_of_ble_eq_true rfl) rfl e2 (by decide) rfl ?_
    refine E_if (t := 31) (b := true) rfl rfl (by decide) ?_
    refine E_iconst (x := 1) rfl (by decide) ?_
    refine E_istore (L2 := [some (.ref 0), some (.int a1), some (.int a2), some (.int a3), some (.int a4), some (.int 1), none, none, none]) rfl rfl ?_
    refine E_iload rfl rfl ?_
    refine E_if (t := 56) (b := true) rfl rfl (by decide) ?_
    refine E_iload rfl rfl ?_
    refine E_if (t := 71) (b := false) rfl rfl (by decide) ?_
    refine E_aload_n rfl rfl ?_
    refine E_iload rfl rfl ?_
    refine E_callV (v := some (.int (-1))) (As := [.ref 0, .int 1]) (r0 := []) (cs2 := (w0.set 48 (.inl [0, 1, 0, 0, 0, 0, 0, 0]))) rfl rfl rfl (Nat.le_of_ble_eq_true rfl) rfl rfl c1_X5_refuse (by decide) (by simp only [List.length_set]) ?_
    refine E_bipush (x := 10) rfl (by decide) ?_
    refine E_isub (z := (-11)) rfl (by decide) ?_
    exact E_iret rfl rfl, by
    refine Ef.in (md := mX6_costs) (L := [some (.ref 65), some (.int a1), some (.int a2), some (.int a3), some (.int a4), none, none, none, none, none, none, none]) rfl (Nat.le_of_ble_eq_true rfl) rfl ?_
    refine E_aload_n rfl rfl ?_
    refine E_iload_n rfl rfl ?_
    refine E_iconst (x := 0) rfl (by decide) ?_
    refine E_bipush (x := 7) rfl (by decide) ?_
    have e5 : Ev ab_Z0 1 134 [.ref 65, .int a3, .int 0, .int 7] (w0.set 48 (.inl [0, 1, 0, 0, 0, 0, 0, 0])) (some (.int 0), (w0.set 48 (.inl [0, 1, 0, 0, 0, 0, 0, 0]))) := by
      refine Ef.in (md := mX6_isFrom) (L := [some (.ref 65), some (.int a3), some (.int 0), some (.int 7)]) rfl (Nat.le_of_ble_eq_true rfl) rfl ?_
      refine E_iload_n rfl rfl ?_
      refine E_iload_n rfl rfl ?_
      refine E_ic (t := 14) (b := true) rfl rfl ((cn_lt (rfl : (a3).toInt = (a3).toInt) (by decide : (0 : Int32).toInt = 0)).trans (decide_eq_true (by omega))) ?_
      refine E_iconst (x := 0) rfl (by decide) ?_
      exact E_iret rfl rfl
    refine E_callV (v := some (.int 0)) (As := [.ref 65, .int a3, .int 0, .int 7]) (r0 := []) (cs2 := (w0.set 48 (.inl [0, 1, 0, 0, 0, 0, 0, 0]))) rfl rfl rfl (Nat.le_of_ble_eq_true rfl) rfl rfl e5 (by decide) rfl ?_
    refine E_if (t := 15) (b := false) rfl rfl (by decide) ?_
    refine E_iconst (x := (-1)) rfl (by decide) ?_
    refine E_goto (t := 39) rfl rfl ?_
    refine E_istore (L2 := [some (.ref 65), some (.int a1), some (.int a2), some (.int a3), some (.int a4), some (.int (-1)), none, none, none, none, none, none]) rfl rfl ?_
    refine E_iconst (x := 0) rfl (by decide) ?_
    refine E_istore (L2 := [some (.ref 65), some (.int a1), some (.int a2), some (.int a3), some (.int a4), some (.int (-1)), some (.int 0), none, none, none, none, none]) rfl rfl ?_
    refine E_iload rfl rfl ?_
    refine E_iload_n rfl rfl ?_
    refine E_ic (t := 80) (b := false) rfl rfl ((cn_ge (by decide : (0 : Int32).toInt = 0) (rfl : (a2).toInt = (a2).toInt)).trans (decide_eq_false (by omega))) ?_
    refine E_iload rfl rfl ?_
    refine E_if (t := 80) (b := true) rfl rfl (by decide) ?_
    refine E_iload rfl rfl ?_
    refine E_if (t := 92) (b := false) rfl rfl (by decide) ?_
    refine E_aload_n rfl rfl ?_
    refine E_iload rfl rfl ?_
    refine E_callV (v := some (.int (-11))) (As := [.ref 65, .int (-1)]) (r0 := []) (cs2 := ((w0.set 48 (.inl [0, 1, 0, 0, 0, 0, 0, 0])).set 66 (.inl [0, 1, 0, 0, 0, 0, 0, 0]))) rfl rfl rfl (Nat.le_of_ble_eq_true rfl) rfl rfl c247_X6_noTen (by decide) (by simp only [List.length_set]) ?_
    exact E_iret rfl rfl, (by simp only [List.length_set]; rfl), (by simp only [List.length_set]; rfl), ((ab_szs rfl).trans ((ab_szs rfl).trans rfl)), fun _ => rfl⟩
theorem f_costs_3 (a1 a2 a3 a4 : Int32) (ha1h : a1.toInt ≤ -1) (ha2h : a2.toInt ≤ 0) (ha3l : (0 : Int) ≤ a3.toInt) (ha3h : a3.toInt ≤ 7) (ha4h : a4.toInt ≤ -1) : p1_P 6 100 4 188 [.ref 0, .int a1, .int a2, .int a3, .int a4] [.ref 65, .int a1, .int a2, .int a3, .int a4] :=
  ⟨(-11), (w0.set 48 (.inl [0, 1, 0, 0, 0, 0, 0, 0])), ((w0.set 48 (.inl [0, 1, 0, 0, 0, 0, 0, 0])).set 66 (.inl [0, 1, 0, 0, 0, 0, 0, 0])), by
    refine Ef.in (md := mX5_costs) (L := [some (.ref 0), some (.int a1), some (.int a2), some (.int a3), some (.int a4), none, none, none, none]) rfl (Nat.le_of_ble_eq_true rfl) rfl ?_
    refine E_iload_n rfl rfl ?_
    have e2 : Ev ab_Z0 1 47 [.int a3] w0 (some (.int 1), w0) := by
      refine Ef.in (md := mX4_isWish) (L := [some (.int a3)]) rfl (Nat.le_of_ble_eq_true rfl) rfl ?_
      refine E_iload_n rfl rfl ?_
      refine E_if (t := 14) (b := false) rfl rfl ((cn_lt (rfl : (a3).toInt = (a3).toInt) (by decide : (0 : Int32).toInt = 0)).trans (decide_eq_false (by omega))) ?_
      refine E_iload_n rfl rfl ?_
      refine E_bipush (x := 8) rfl (by decide) ?_
      refine E_ic (t := 14) (b := false) rfl rfl ((cn_ge (rfl : (a3).toInt = (a3).toInt) (by decide : (8 : Int32).toInt = 8)).trans (decide_eq_false (by omega))) ?_
      refine E_iconst (x := 1) rfl (by decide) ?_
      refine E_goto (t := 15) rfl rfl ?_
      exact E_iret rfl rfl
    refine E_callS (v := some (.int 1)) (As := [.int a3]) (r0 := []) (cs2 := w0) rfl rfl rfl (Nat.le_of_ble_eq_true rfl) rfl e2 (by decide) rfl ?_
    refine E_if (t := 31) (b := false) rfl rfl (by decide) ?_
    refine E_aload_n rfl rfl ?_
    refine E_iload_n rfl rfl ?_
    refine E_iload_n rfl rfl ?_
    refine E_bipush (x := 40) rfl (by decide) ?_
    refine E_iload rfl rfl ?_
    have e19 : Ev ab_Z0 1 116 [.int a4] w0 (some (.int 0), w0) := by
      refine Ef.in (md := mX5_isOneOfTwo) (L := [some (.int a4)]) rfl (Nat.le_of_ble_eq_true rfl) rfl ?_
      refine E_iload_n rfl rfl ?_
      refine E_if (t := 9) (b := false) rfl rfl ((cn_eq (rfl : (a4).toInt = (a4).toInt) (by decide : (0 : Int32).toInt = 0)).trans (decide_eq_false (by omega))) ?_
      refine E_iload_n rfl rfl ?_
      refine E_iconst (x := 1) rfl (by decide) ?_
      refine E_ic (t := 13) (b := true) rfl rfl ((cn_ne (rfl : (a4).toInt = (a4).toInt) (by decide : (1 : Int32).toInt = 1)).trans (decide_eq_true (by omega))) ?_
      refine E_iconst (x := 0) rfl (by decide) ?_
      exact E_iret rfl rfl
    refine E_callS (v := some (.int 0)) (As := [.int a4]) (r0 := [.int 40, .int a2, .int a1, .ref 0]) (cs2 := w0) rfl rfl rfl (Nat.le_of_ble_eq_true rfl) rfl e19 (by decide) rfl ?_
    refine E_if (t := 24) (b := false) rfl rfl (by decide) ?_
    refine E_iconst (x := 1) rfl (by decide) ?_
    refine E_goto (t := 25) rfl rfl ?_
    have e32 : Ev ab_Z0 3 120 [.ref 0, .int a1, .int a2, .int 40, .int 1] w0 (some (.int 1), w0) := by
      refine Ef.in (md := mX5_whyNoTwos) (L := [some (.ref 0), some (.int a1), some (.int a2), some (.int 40), some (.int 1), none]) rfl (Nat.le_of_ble_eq_true rfl) rfl ?_
      refine E_aload_n rfl rfl ?_
      refine E_iload_n rfl rfl ?_
      have e3 : Ev ab_Z0 2 119 [.ref 0, .int a1] w0 (some (.int 1), w0) := by
        refine Ef.in (md := mX5_whyNoRow) (L := [some (.ref 0), some (.int a1)]) rfl (Nat.le_of_ble_eq_true rfl) rfl ?_
        refine E_iload_n rfl rfl ?_
        have e2 : Ev ab_Z0 1 117 [.int a1] w0 (some (.int 0), w0) := by
          refine Ef.in (md := mX5_isShelf) (L := [some (.int a1)]) rfl (Nat.le_of_ble_eq_true rfl) rfl ?_
          refine E_iload_n rfl rfl ?_
          refine E_if (t := 14) (b := true) rfl rfl ((cn_lt (rfl : (a1).toInt = (a1).toInt) (by decide : (0 : Int32).toInt = 0)).trans (decide_eq_true (by omega))) ?_
          refine E_iconst (x := 0) rfl (by decide) ?_
          exact E_iret rfl rfl
        refine E_callS (v := some (.int 0)) (As := [.int a1]) (r0 := []) (cs2 := w0) rfl rfl rfl (Nat.le_of_ble_eq_true rfl) rfl e2 (by decide) rfl ?_
        refine E_if (t := 9) (b := false) rfl rfl (by decide) ?_
        refine E_iconst (x := 1) rfl (by decide) ?_
        exact E_iret rfl rfl
      refine E_callV (v := some (.int 1)) (As := [.ref 0, .int a1]) (r0 := []) (cs2 := w0) rfl rfl rfl (Nat.le_of_ble_eq_true rfl) rfl rfl e3 (by decide) rfl ?_
      refine E_istore (L2 := [some (.ref 0), some (.int a1), some (.int a2), some (.int 40), some (.int 1), some (.int 1)]) rfl rfl ?_
      refine E_iload rfl rfl ?_
      refine E_if (t := 15) (b := false) rfl rfl (by decide) ?_
      refine E_iload rfl rfl ?_
      exact E_iret rfl rfl
    refine E_callV (v := some (.int 1)) (As := [.ref 0, .int a1, .int a2, .int 40, .int 1]) (r0 := []) (cs2 := w0) rfl rfl rfl (Nat.le_of_ble_eq_true rfl) rfl rfl e32 (by decide) rfl ?_
    refine E_goto (t := 32) rfl rfl ?_
    refine E_istore (L2 := [some (.ref 0), some (.int a1), some (.int a2), some (.int a3), some (.int a4), some (.int 1), none, none, none]) rfl rfl ?_
    refine E_iload rfl rfl ?_
    refine E_if (t := 56) (b := true) rfl rfl (by decide) ?_
    refine E_iload rfl rfl ?_
    refine E_if (t := 71) (b := false) rfl rfl (by decide) ?_
    refine E_aload_n rfl rfl ?_
    refine E_iload rfl rfl ?_
    refine E_callV (v := some (.int (-1))) (As := [.ref 0, .int 1]) (r0 := []) (cs2 := (w0.set 48 (.inl [0, 1, 0, 0, 0, 0, 0, 0]))) rfl rfl rfl (Nat.le_of_ble_eq_true rfl) rfl rfl c1_X5_refuse (by decide) (by simp only [List.length_set]) ?_
    refine E_bipush (x := 10) rfl (by decide) ?_
    refine E_isub (z := (-11)) rfl (by decide) ?_
    exact E_iret rfl rfl, by
    refine Ef.in (md := mX6_costs) (L := [some (.ref 65), some (.int a1), some (.int a2), some (.int a3), some (.int a4), none, none, none, none, none, none, none]) rfl (Nat.le_of_ble_eq_true rfl) rfl ?_
    refine E_aload_n rfl rfl ?_
    refine E_iload_n rfl rfl ?_
    refine E_iconst (x := 0) rfl (by decide) ?_
    refine E_bipush (x := 7) rfl (by decide) ?_
    have e5 : Ev ab_Z0 1 134 [.ref 65, .int a3, .int 0, .int 7] (w0.set 48 (.inl [0, 1, 0, 0, 0, 0, 0, 0])) (some (.int 1), (w0.set 48 (.inl [0, 1, 0, 0, 0, 0, 0, 0]))) := by
      refine Ef.in (md := mX6_isFrom) (L := [some (.ref 65), some (.int a3), some (.int 0), some (.int 7)]) rfl (Nat.le_of_ble_eq_true rfl) rfl ?_
      refine E_iload_n rfl rfl ?_
      refine E_iload_n rfl rfl ?_
      refine E_ic (t := 14) (b := false) rfl rfl ((cn_lt (rfl : (a3).toInt = (a3).toInt) (by decide : (0 : Int32).toInt = 0)).trans (decide_eq_false (by omega))) ?_
      refine E_iload_n rfl rfl ?_
      refine E_iload_n rfl rfl ?_
      refine E_ic (t := 14) (b := false) rfl rfl ((cn_gt (rfl : (a3).toInt = (a3).toInt) (by decide : (7 : Int32).toInt = 7)).trans (decide_eq_false (by omega))) ?_
      refine E_iconst (x := 1) rfl (by decide) ?_
      refine E_goto (t := 15) rfl rfl ?_
      exact E_iret rfl rfl
    refine E_callV (v := some (.int 1)) (As := [.ref 65, .int a3, .int 0, .int 7]) (r0 := []) (cs2 := (w0.set 48 (.inl [0, 1, 0, 0, 0, 0, 0, 0]))) rfl rfl rfl (Nat.le_of_ble_eq_true rfl) rfl rfl e5 (by decide) rfl ?_
    refine E_if (t := 15) (b := true) rfl rfl (by decide) ?_
    refine E_aload_n rfl rfl ?_
    refine E_iload_n rfl rfl ?_
    refine E_iload_n rfl rfl ?_
    refine E_bipush (x := 40) rfl (by decide) ?_
    refine E_iload rfl rfl ?_
    refine E_if (t := 31) (b := false) rfl rfl ((cn_eq (rfl : (a4).toInt = (a4).toInt) (by decide : (0 : Int32).toInt = 0)).trans (decide_eq_false (by omega))) ?_
    refine E_iload rfl rfl ?_
    refine E_iconst (x := 1) rfl (by decide) ?_
    refine E_ic (t := 35) (b := true) rfl rfl ((cn_ne (rfl : (a4).toInt = (a4).toInt) (by decide : (1 : Int32).toInt = 1)).trans (decide_eq_true (by omega))) ?_
    refine E_iconst (x := 0) rfl (by decide) ?_
    have e28 : Ev ab_Z0 3 186 [.ref 65, .int a1, .int a2, .int 40, .int 0] (w0.set 48 (.inl [0, 1, 0, 0, 0, 0, 0, 0])) (some (.int (-1)), (w0.set 48 (.inl [0, 1, 0, 0, 0, 0, 0, 0]))) := by
      refine Ef.in (md := mX6_barsOf) (L := [some (.ref 65), some (.int a1), some (.int a2), some (.int 40), some (.int 0), none]) rfl (Nat.le_of_ble_eq_true rfl) rfl ?_
      refine E_aload_n rfl rfl ?_
      refine E_iload_n rfl rfl ?_
      have e3 : Ev ab_Z0 2 142 [.ref 65, .int a1] (w0.set 48 (.inl [0, 1, 0, 0, 0, 0, 0, 0])) (some (.int (-1)), (w0.set 48 (.inl [0, 1, 0, 0, 0, 0, 0, 0]))) := by
        refine Ef.in (md := mX6_wanted) (L := [some (.ref 65), some (.int a1)]) rfl (Nat.le_of_ble_eq_true rfl) rfl ?_
        refine E_aload_n rfl rfl ?_
        refine E_iload_n rfl rfl ?_
        have e3 : Ev ab_Z0 1 131 [.ref 65, .int a1] (w0.set 48 (.inl [0, 1, 0, 0, 0, 0, 0, 0])) (some (.int 0), (w0.set 48 (.inl [0, 1, 0, 0, 0, 0, 0, 0]))) := by
          refine Ef.in (md := mX6_isShelf) (L := [some (.ref 65), some (.int a1)]) rfl (Nat.le_of_ble_eq_true rfl) rfl ?_
          refine E_iload_n rfl rfl ?_
          refine E_if (t := 14) (b := true) rfl rfl ((cn_lt (rfl : (a1).toInt = (a1).toInt) (by decide : (0 : Int32).toInt = 0)).trans (decide_eq_true (by omega))) ?_
          refine E_iconst (x := 0) rfl (by decide) ?_
          exact E_iret rfl rfl
        refine E_callV (v := some (.int 0)) (As := [.ref 65, .int a1]) (r0 := []) (cs2 := (w0.set 48 (.inl [0, 1, 0, 0, 0, 0, 0, 0]))) rfl rfl rfl (Nat.le_of_ble_eq_true rfl) rfl rfl e3 (by decide) rfl ?_
        refine E_if (t := 12) (b := false) rfl rfl (by decide) ?_
        refine E_iconst (x := (-1)) rfl (by decide) ?_
        refine E_goto (t := 42) rfl rfl ?_
        exact E_iret rfl rfl
      refine E_callV (v := some (.int (-1))) (As := [.ref 65, .int a1]) (r0 := []) (cs2 := (w0.set 48 (.inl [0, 1, 0, 0, 0, 0, 0, 0]))) rfl rfl rfl (Nat.le_of_ble_eq_true rfl) rfl rfl e3 (by decide) rfl ?_
      refine E_istore (L2 := [some (.ref 65), some (.int a1), some (.int a2), some (.int 40), some (.int 0), some (.int (-1))]) rfl rfl ?_
      refine E_iload rfl rfl ?_
      refine E_if (t := 17) (b := false) rfl rfl (by decide) ?_
      refine E_iload rfl rfl ?_
      refine E_goto (t := 59) rfl rfl ?_
      exact E_iret rfl rfl
    refine E_callV (v := some (.int (-1))) (As := [.ref 65, .int a1, .int a2, .int 40, .int 0]) (r0 := []) (cs2 := (w0.set 48 (.inl [0, 1, 0, 0, 0, 0, 0, 0]))) rfl rfl rfl (Nat.le_of_ble_eq_true rfl) rfl rfl e28 (by decide) rfl ?_
    refine E_istore (L2 := [some (.ref 65), some (.int a1), some (.int a2), some (.int a3), some (.int a4), some (.int (-1)), none, none, none, none, none, none]) rfl rfl ?_
    refine E_iconst (x := 0) rfl (by decide) ?_
    refine E_istore (L2 := [some (.ref 65), some (.int a1), some (.int a2), some (.int a3), some (.int a4), some (.int (-1)), some (.int 0), none, none, none, none, none]) rfl rfl ?_
    refine E_iload rfl rfl ?_
    refine E_iload_n rfl rfl ?_
    refine E_ic (t := 80) (b := true) rfl rfl ((cn_ge (by decide : (0 : Int32).toInt = 0) (rfl : (a2).toInt = (a2).toInt)).trans (decide_eq_true (by omega))) ?_
    refine E_iload rfl rfl ?_
    refine E_if (t := 92) (b := false) rfl rfl (by decide) ?_
    refine E_aload_n rfl rfl ?_
    refine E_iload rfl rfl ?_
    refine E_callV (v := some (.int (-11))) (As := [.ref 65, .int (-1)]) (r0 := []) (cs2 := ((w0.set 48 (.inl [0, 1, 0, 0, 0, 0, 0, 0])).set 66 (.inl [0, 1, 0, 0, 0, 0, 0, 0]))) rfl rfl rfl (Nat.le_of_ble_eq_true rfl) rfl rfl c247_X6_noTen (by decide) (by simp only [List.length_set]) ?_
    exact E_iret rfl rfl, (by simp only [List.length_set]; rfl), (by simp only [List.length_set]; rfl), ((ab_szs rfl).trans ((ab_szs rfl).trans rfl)), fun _ => rfl⟩
theorem f_costs_4 (a1 a2 a3 a4 : Int32) (ha1h : a1.toInt ≤ -1) (ha2l : (1 : Int) ≤ a2.toInt) (ha3l : (0 : Int) ≤ a3.toInt) (ha3h : a3.toInt ≤ 7) (ha4h : a4.toInt ≤ -1) : p1_P 6 100 4 188 [.ref 0, .int a1, .int a2, .int a3, .int a4] [.ref 65, .int a1, .int a2, .int a3, .int a4] :=
  ⟨(-11), (w0.set 48 (.inl [0, 1, 0, 0, 0, 0, 0, 0])), ((w0.set 48 (.inl [0, 1, 0, 0, 0, 0, 0, 0])).set 66 (.inl [0, 1, 0, 0, 0, 0, 0, 0])), by
    refine Ef.in (md := mX5_costs) (L := [some (.ref 0), some (.int a1), some (.int a2), some (.int a3), some (.int a4), none, none, none, none]) rfl (Nat.le_of_ble_eq_true rfl) rfl ?_
    refine E_iload_n rfl rfl ?_
    have e2 : Ev ab_Z0 1 47 [.int a3] w0 (some (.int 1), w0) := by
      refine Ef.in (md := mX4_isWish) (L := [some (.int a3)]) rfl (Nat.le_of_ble_eq_true rfl) rfl ?_
      refine E_iload_n rfl rfl ?_
      refine E_if (t := 14) (b := false) rfl rfl ((cn_lt (rfl : (a3).toInt = (a3).toInt) (by decide : (0 : Int32).toInt = 0)).trans (decide_eq_false (by omega))) ?_
      refine E_iload_n rfl rfl ?_
      refine E_bipush (x := 8) rfl (by decide) ?_
      refine E_ic (t := 14) (b := false) rfl rfl ((cn_ge (rfl : (a3).toInt = (a3).toInt) (by decide : (8 : Int32).toInt = 8)).trans (decide_eq_false (by omega))) ?_
      refine E_iconst (x := 1) rfl (by decide) ?_
      refine E_goto (t := 15) rfl rfl ?_
      exact E_iret rfl rfl
    refine E_callS (v := some (.int 1)) (As := [.int a3]) (r0 := []) (cs2 := w0) rfl rfl rfl (Nat.le_of_ble_eq_true rfl) rfl e2 (by decide) rfl ?_
    refine E_if (t := 31) (b := false) rfl rfl (by decide) ?_
    refine E_aload_n rfl rfl ?_
    refine E_iload_n rfl rfl ?_
    refine E_iload_n rfl rfl ?_
    refine E_bipush (x := 40) rfl (by decide) ?_
    refine E_iload rfl rfl ?_
    have e19 : Ev ab_Z0 1 116 [.int a4] w0 (some (.int 0), w0) := by
      refine Ef.in (md := mX5_isOneOfTwo) (L := [some (.int a4)]) rfl (Nat.le_of_ble_eq_true rfl) rfl ?_
      refine E_iload_n rfl rfl ?_
      refine E_if (t := 9) (b := false) rfl rfl ((cn_eq (rfl : (a4).toInt = (a4).toInt) (by decide : (0 : Int32).toInt = 0)).trans (decide_eq_false (by omega))) ?_
      refine E_iload_n rfl rfl ?_
      refine E_iconst (x := 1) rfl (by decide) ?_
      refine E_ic (t := 13) (b := true) rfl rfl ((cn_ne (rfl : (a4).toInt = (a4).toInt) (by decide : (1 : Int32).toInt = 1)).trans (decide_eq_true (by omega))) ?_
      refine E_iconst (x := 0) rfl (by decide) ?_
      exact E_iret rfl rfl
    refine E_callS (v := some (.int 0)) (As := [.int a4]) (r0 := [.int 40, .int a2, .int a1, .ref 0]) (cs2 := w0) rfl rfl rfl (Nat.le_of_ble_eq_true rfl) rfl e19 (by decide) rfl ?_
    refine E_if (t := 24) (b := false) rfl rfl (by decide) ?_
    refine E_iconst (x := 1) rfl (by decide) ?_
    refine E_goto (t := 25) rfl rfl ?_
    have e32 : Ev ab_Z0 3 120 [.ref 0, .int a1, .int a2, .int 40, .int 1] w0 (some (.int 1), w0) := by
      refine Ef.in (md := mX5_whyNoTwos) (L := [some (.ref 0), some (.int a1), some (.int a2), some (.int 40), some (.int 1), none]) rfl (Nat.le_of_ble_eq_true rfl) rfl ?_
      refine E_aload_n rfl rfl ?_
      refine E_iload_n rfl rfl ?_
      have e3 : Ev ab_Z0 2 119 [.ref 0, .int a1] w0 (some (.int 1), w0) := by
        refine Ef.in (md := mX5_whyNoRow) (L := [some (.ref 0), some (.int a1)]) rfl (Nat.le_of_ble_eq_true rfl) rfl ?_
        refine E_iload_n rfl rfl ?_
        have e2 : Ev ab_Z0 1 117 [.int a1] w0 (some (.int 0), w0) := by
          refine Ef.in (md := mX5_isShelf) (L := [some (.int a1)]) rfl (Nat.le_of_ble_eq_true rfl) rfl ?_
          refine E_iload_n rfl rfl ?_
          refine E_if (t := 14) (b := true) rfl rfl ((cn_lt (rfl : (a1).toInt = (a1).toInt) (by decide : (0 : Int32).toInt = 0)).trans (decide_eq_true (by omega))) ?_
          refine E_iconst (x := 0) rfl (by decide) ?_
          exact E_iret rfl rfl
        refine E_callS (v := some (.int 0)) (As := [.int a1]) (r0 := []) (cs2 := w0) rfl rfl rfl (Nat.le_of_ble_eq_true rfl) rfl e2 (by decide) rfl ?_
        refine E_if (t := 9) (b := false) rfl rfl (by decide) ?_
        refine E_iconst (x := 1) rfl (by decide) ?_
        exact E_iret rfl rfl
      refine E_callV (v := some (.int 1)) (As := [.ref 0, .int a1]) (r0 := []) (cs2 := w0) rfl rfl rfl (Nat.le_of_ble_eq_true rfl) rfl rfl e3 (by decide) rfl ?_
      refine E_istore (L2 := [some (.ref 0), some (.int a1), some (.int a2), some (.int 40), some (.int 1), some (.int 1)]) rfl rfl ?_
      refine E_iload rfl rfl ?_
      refine E_if (t := 15) (b := false) rfl rfl (by decide) ?_
      refine E_iload rfl rfl ?_
      exact E_iret rfl rfl
    refine E_callV (v := some (.int 1)) (As := [.ref 0, .int a1, .int a2, .int 40, .int 1]) (r0 := []) (cs2 := w0) rfl rfl rfl (Nat.le_of_ble_eq_true rfl) rfl rfl e32 (by decide) rfl ?_
    refine E_goto (t := 32) rfl rfl ?_
    refine E_istore (L2 := [some (.ref 0), some (.int a1), some (.int a2), some (.int a3), some (.int a4), some (.int 1), none, none, none]) rfl rfl ?_
    refine E_iload rfl rfl ?_
    refine E_if (t := 56) (b := true) rfl rfl (by decide) ?_
    refine E_iload rfl rfl ?_
    refine E_if (t := 71) (b := false) rfl rfl (by decide) ?_
    refine E_aload_n rfl rfl ?_
    refine E_iload rfl rfl ?_
    refine E_callV (v := some (.int (-1))) (As := [.ref 0, .int 1]) (r0 := []) (cs2 := (w0.set 48 (.inl [0, 1, 0, 0, 0, 0, 0, 0]))) rfl rfl rfl (Nat.le_of_ble_eq_true rfl) rfl rfl c1_X5_refuse (by decide) (by simp only [List.length_set]) ?_
    refine E_bipush (x := 10) rfl (by decide) ?_
    refine E_isub (z := (-11)) rfl (by decide) ?_
    exact E_iret rfl rfl, by
    refine Ef.in (md := mX6_costs) (L := [some (.ref 65), some (.int a1), some (.int a2), some (.int a3), some (.int a4), none, none, none, none, none, none, none]) rfl (Nat.le_of_ble_eq_true rfl) rfl ?_
    refine E_aload_n rfl rfl ?_
    refine E_iload_n rfl rfl ?_
    refine E_iconst (x := 0) rfl (by decide) ?_
    refine E_bipush (x := 7) rfl (by decide) ?_
    have e5 : Ev ab_Z0 1 134 [.ref 65, .int a3, .int 0, .int 7] (w0.set 48 (.inl [0, 1, 0, 0, 0, 0, 0, 0])) (some (.int 1), (w0.set 48 (.inl [0, 1, 0, 0, 0, 0, 0, 0]))) := by
      refine Ef.in (md := mX6_isFrom) (L := [some (.ref 65), some (.int a3), some (.int 0), some (.int 7)]) rfl (Nat.le_of_ble_eq_true rfl) rfl ?_
      refine E_iload_n rfl rfl ?_
      refine E_iload_n rfl rfl ?_
      refine E_ic (t := 14) (b := false) rfl rfl ((cn_lt (rfl : (a3).toInt = (a3).toInt) (by decide : (0 : Int32).toInt = 0)).trans (decide_eq_false (by omega))) ?_
      refine E_iload_n rfl rfl ?_
      refine E_iload_n rfl rfl ?_
      refine E_ic (t := 14) (b := false) rfl rfl ((cn_gt (rfl : (a3).toInt = (a3).toInt) (by decide : (7 : Int32).toInt = 7)).trans (decide_eq_false (by omega))) ?_
      refine E_iconst (x := 1) rfl (by decide) ?_
      refine E_goto (t := 15) rfl rfl ?_
      exact E_iret rfl rfl
    refine E_callV (v := some (.int 1)) (As := [.ref 65, .int a3, .int 0, .int 7]) (r0 := []) (cs2 := (w0.set 48 (.inl [0, 1, 0, 0, 0, 0, 0, 0]))) rfl rfl rfl (Nat.le_of_ble_eq_true rfl) rfl rfl e5 (by decide) rfl ?_
    refine E_if (t := 15) (b := true) rfl rfl (by decide) ?_
    refine E_aload_n rfl rfl ?_
    refine E_iload_n rfl rfl ?_
    refine E_iload_n rfl rfl ?_
    refine E_bipush (x := 40) rfl (by decide) ?_
    refine E_iload rfl rfl ?_
    refine E_if (t := 31) (b := false) rfl rfl ((cn_eq (rfl : (a4).toInt = (a4).toInt) (by decide : (0 : Int32).toInt = 0)).trans (decide_eq_false (by omega))) ?_
    refine E_iload rfl rfl ?_
    refine E_iconst (x := 1) rfl (by decide) ?_
    refine E_ic (t := 35) (b := true) rfl rfl ((cn_ne (rfl : (a4).toInt = (a4).toInt) (by decide : (1 : Int32).toInt = 1)).trans (decide_eq_true (by omega))) ?_
    refine E_iconst (x := 0) rfl (by decide) ?_
    have e28 : Ev ab_Z0 3 186 [.ref 65, .int a1, .int a2, .int 40, .int 0] (w0.set 48 (.inl [0, 1, 0, 0, 0, 0, 0, 0])) (some (.int (-1)), (w0.set 48 (.inl [0, 1, 0, 0, 0, 0, 0, 0]))) := by
      refine Ef.in (md := mX6_barsOf) (L := [some (.ref 65), some (.int a1), some (.int a2), some (.int 40), some (.int 0), none]) rfl (Nat.le_of_ble_eq_true rfl) rfl ?_
      refine E_aload_n rfl rfl ?_
      refine E_iload_n rfl rfl ?_
      have e3 : Ev ab_Z0 2 142 [.ref 65, .int a1] (w0.set 48 (.inl [0, 1, 0, 0, 0, 0, 0, 0])) (some (.int (-1)), (w0.set 48 (.inl [0, 1, 0, 0, 0, 0, 0, 0]))) := by
        refine Ef.in (md := mX6_wanted) (L := [some (.ref 65), some (.int a1)]) rfl (Nat.le_of_ble_eq_true rfl) rfl ?_
        refine E_aload_n rfl rfl ?_
        refine E_iload_n rfl rfl ?_
        have e3 : Ev ab_Z0 1 131 [.ref 65, .int a1] (w0.set 48 (.inl [0, 1, 0, 0, 0, 0, 0, 0])) (some (.int 0), (w0.set 48 (.inl [0, 1, 0, 0, 0, 0, 0, 0]))) := by
          refine Ef.in (md := mX6_isShelf) (L := [some (.ref 65), some (.int a1)]) rfl (Nat.le_of_ble_eq_true rfl) rfl ?_
          refine E_iload_n rfl rfl ?_
          refine E_if (t := 14) (b := true) rfl rfl ((cn_lt (rfl : (a1).toInt = (a1).toInt) (by decide : (0 : Int32).toInt = 0)).trans (decide_eq_true (by omega))) ?_
          refine E_iconst (x := 0) rfl (by decide) ?_
          exact E_iret rfl rfl
        refine E_callV (v := some (.int 0)) (As := [.ref 65, .int a1]) (r0 := []) (cs2 := (w0.set 48 (.inl [0, 1, 0, 0, 0, 0, 0, 0]))) rfl rfl rfl (Nat.le_of_ble_eq_true rfl) rfl rfl e3 (by decide) rfl ?_
        refine E_if (t := 12) (b := false) rfl rfl (by decide) ?_
        refine E_iconst (x := (-1)) rfl (by decide) ?_
        refine E_goto (t := 42) rfl rfl ?_
        exact E_iret rfl rfl
      refine E_callV (v := some (.int (-1))) (As := [.ref 65, .int a1]) (r0 := []) (cs2 := (w0.set 48 (.inl [0, 1, 0, 0, 0, 0, 0, 0]))) rfl rfl rfl (Nat.le_of_ble_eq_true rfl) rfl rfl e3 (by decide) rfl ?_
      refine E_istore (L2 := [some (.ref 65), some (.int a1), some (.int a2), some (.int 40), some (.int 0), some (.int (-1))]) rfl rfl ?_
      refine E_iload rfl rfl ?_
      refine E_if (t := 17) (b := false) rfl rfl (by decide) ?_
      refine E_iload rfl rfl ?_
      refine E_goto (t := 59) rfl rfl ?_
      exact E_iret rfl rfl
    refine E_callV (v := some (.int (-1))) (As := [.ref 65, .int a1, .int a2, .int 40, .int 0]) (r0 := []) (cs2 := (w0.set 48 (.inl [0, 1, 0, 0, 0, 0, 0, 0]))) rfl rfl rfl (Nat.le_of_ble_eq_true rfl) rfl rfl e28 (by decide) rfl ?_
    refine E_istore (L2 := [some (.ref 65), some (.int a1), some (.int a2), some (.int a3), some (.int a4), some (.int (-1)), none, none, none, none, none, none]) rfl rfl ?_
    refine E_iconst (x := 0) rfl (by decide) ?_
    refine E_istore (L2 := [some (.ref 65), some (.int a1), some (.int a2), some (.int a3), some (.int a4), some (.int (-1)), some (.int 0), none, none, none, none, none]) rfl rfl ?_
    refine E_iload rfl rfl ?_
    refine E_iload_n rfl rfl ?_
    refine E_ic (t := 80) (b := false) rfl rfl ((cn_ge (by decide : (0 : Int32).toInt = 0) (rfl : (a2).toInt = (a2).toInt)).trans (decide_eq_false (by omega))) ?_
    refine E_iload rfl rfl ?_
    refine E_if (t := 80) (b := true) rfl rfl (by decide) ?_
    refine E_iload rfl rfl ?_
    refine E_if (t := 92) (b := false) rfl rfl (by decide) ?_
    refine E_aload_n rfl rfl ?_
    refine E_iload rfl rfl ?_
    refine E_callV (v := some (.int (-11))) (As := [.ref 65, .int (-1)]) (r0 := []) (cs2 := ((w0.set 48 (.inl [0, 1, 0, 0, 0, 0, 0, 0])).set 66 (.inl [0, 1, 0, 0, 0, 0, 0, 0]))) rfl rfl rfl (Nat.le_of_ble_eq_true rfl) rfl rfl c247_X6_noTen (by decide) (by simp only [List.length_set]) ?_
    exact E_iret rfl rfl, (by simp only [List.length_set]; rfl), (by simp only [List.length_set]; rfl), ((ab_szs rfl).trans ((ab_szs rfl).trans rfl)), fun _ => rfl⟩
theorem f_costs_5 (a2 a3 a4 : Int32) (ha2h : a2.toInt ≤ 0) (ha3l : (0 : Int) ≤ a3.toInt) (ha3h : a3.toInt ≤ 7) (ha4h : a4.toInt ≤ -1) : p1_P 6 100 4 188 [.ref 0, .int 0, .int a2, .int a3, .int a4] [.ref 65, .int 0, .int a2, .int a3, .int a4] :=
  ⟨(-13), (w0.set 48 (.inl [0, 0, 0, 1, 0, 0, 0, 0])), ((w0.set 48 (.inl [0, 0, 0, 1, 0, 0, 0, 0])).set 66 (.inl [0, 0, 0, 1, 0, 0, 0, 0])), by
    refine Ef.in (md := mX5_costs) (L := [some (.ref 0), some (.int 0), some (.int a2), some (.int a3), some (.int a4), none, none, none, none]) rfl (Nat.le_of_ble_eq_true rfl) rfl ?_
    refine E_iload_n rfl rfl ?_
    have e2 : Ev ab_Z0 1 47 [.int a3] w0 (some (.int 1), w0) := by
      refine Ef.in (md := mX4_isWish) (L := [some (.int a3)]) rfl (Nat.le_of_ble_eq_true rfl) rfl ?_
      refine E_iload_n rfl rfl ?_
      refine E_if (t := 14) (b := false) rfl rfl ((cn_lt (rfl : (a3).toInt = (a3).toInt) (by decide : (0 : Int32).toInt = 0)).trans (decide_eq_false (by omega))) ?_
      refine E_iload_n rfl rfl ?_
      refine E_bipush (x := 8) rfl (by decide) ?_
      refine E_ic (t := 14) (b := false) rfl rfl ((cn_ge (rfl : (a3).toInt = (a3).toInt) (by decide : (8 : Int32).toInt = 8)).trans (decide_eq_false (by omega))) ?_
      refine E_iconst (x := 1) rfl (by decide) ?_
      refine E_goto (t := 15) rfl rfl ?_
      exact E_iret rfl rfl
    refine E_callS (v := some (.int 1)) (As := [.int a3]) (r0 := []) (cs2 := w0) rfl rfl rfl (Nat.le_of_ble_eq_true rfl) rfl e2 (by decide) rfl ?_
    refine E_if (t := 31) (b := false) rfl rfl (by decide) ?_
    refine E_aload_n rfl rfl ?_
    refine E_iload_n rfl rfl ?_
    refine E_iload_n rfl rfl ?_
    refine E_bipush (x := 40) rfl (by decide) ?_
    refine E_iload rfl rfl ?_
    have e19 : Ev ab_Z0 1 116 [.int a4] w0 (some (.int 0), w0) := by
      refine Ef.in (md := mX5_isOneOfTwo) (L := [some (.int a4)]) rfl (Nat.le_of_ble_eq_true rfl) rfl ?_
      refine E_iload_n rfl rfl ?_
      refine E_if (t := 9) (b := false) rfl rfl ((cn_eq (rfl : (a4).toInt = (a4).toInt) (by decide : (0 : Int32).toInt = 0)).trans (decide_eq_false (by omega))) ?_
      refine E_iload_n rfl rfl ?_
      refine E_iconst (x := 1) rfl (by decide) ?_
      refine E_ic (t := 13) (b := true) rfl rfl ((cn_ne (rfl : (a4).toInt = (a4).toInt) (by decide : (1 : Int32).toInt = 1)).trans (decide_eq_true (by omega))) ?_
      refine E_iconst (x := 0) rfl (by decide) ?_
      exact E_iret rfl rfl
    refine E_callS (v := some (.int 0)) (As := [.int a4]) (r0 := [.int 40, .int a2, .int 0, .ref 0]) (cs2 := w0) rfl rfl rfl (Nat.le_of_ble_eq_true rfl) rfl e19 (by decide) rfl ?_
    refine E_if (t := 24) (b := false) rfl rfl (by decide) ?_
    refine E_iconst (x := 1) rfl (by decide) ?_
    refine E_goto (t := 25) rfl rfl ?_
    have e32 : Ev ab_Z0 3 120 [.ref 0, .int 0, .int a2, .int 40, .int 1] w0 (some (.int 3), w0) := by
      refine Ef.in (md := mX5_whyNoTwos) (L := [some (.ref 0), some (.int 0), some (.int a2), some (.int 40), some (.int 1), none]) rfl (Nat.le_of_ble_eq_true rfl) rfl ?_
      refine E_aload_n rfl rfl ?_
      refine E_iload_n rfl rfl ?_
      refine E_callV (v := some (.int 3)) (As := [.ref 0, .int 0]) (r0 := []) (cs2 := w0) rfl rfl rfl (Nat.le_of_ble_eq_true rfl) rfl rfl c29_X5_whyNoRow (by decide) rfl ?_
      refine E_istore (L2 := [some (.ref 0), some (.int 0), some (.int a2), some (.int 40), some (.int 1), some (.int 3)]) rfl rfl ?_
      refine E_iload rfl rfl ?_
      refine E_if (t := 15) (b := false) rfl rfl (by decide) ?_
      refine E_iload rfl rfl ?_
      exact E_iret rfl rfl
    refine E_callV (v := some (.int 3)) (As := [.ref 0, .int 0, .int a2, .int 40, .int 1]) (r0 := []) (cs2 := w0) rfl rfl rfl (Nat.le_of_ble_eq_true rfl) rfl rfl e32 (by decide) rfl ?_
    refine E_goto (t := 32) rfl rfl ?_
    refine E_istore (L2 := [some (.ref 0), some (.int 0), some (.int a2), some (.int a3), some (.int a4), some (.int 3), none, none, none]) rfl rfl ?_
    refine E_iload rfl rfl ?_
    refine E_if (t := 56) (b := true) rfl rfl (by decide) ?_
    refine E_iload rfl rfl ?_
    refine E_if (t := 71) (b := false) rfl rfl (by decide) ?_
    refine E_aload_n rfl rfl ?_
    refine E_iload rfl rfl ?_
    refine E_callV (v := some (.int (-3))) (As := [.ref 0, .int 3]) (r0 := []) (cs2 := (w0.set 48 (.inl [0, 0, 0, 1, 0, 0, 0, 0]))) rfl rfl rfl (Nat.le_of_ble_eq_true rfl) rfl rfl c32_X5_refuse (by decide) (by simp only [List.length_set]) ?_
    refine E_bipush (x := 10) rfl (by decide) ?_
    refine E_isub (z := (-13)) rfl (by decide) ?_
    exact E_iret rfl rfl, by
    refine Ef.in (md := mX6_costs) (L := [some (.ref 65), some (.int 0), some (.int a2), some (.int a3), some (.int a4), none, none, none, none, none, none, none]) rfl (Nat.le_of_ble_eq_true rfl) rfl ?_
    refine E_aload_n rfl rfl ?_
    refine E_iload_n rfl rfl ?_
    refine E_iconst (x := 0) rfl (by decide) ?_
    refine E_bipush (x := 7) rfl (by decide) ?_
    have e5 : Ev ab_Z0 1 134 [.ref 65, .int a3, .int 0, .int 7] (w0.set 48 (.inl [0, 0, 0, 1, 0, 0, 0, 0])) (some (.int 1), (w0.set 48 (.inl [0, 0, 0, 1, 0, 0, 0, 0]))) := by
      refine Ef.in (md := mX6_isFrom) (L := [some (.ref 65), some (.int a3), some (.int 0), some (.int 7)]) rfl (Nat.le_of_ble_eq_true rfl) rfl ?_
      refine E_iload_n rfl rfl ?_
      refine E_iload_n rfl rfl ?_
      refine E_ic (t := 14) (b := false) rfl rfl ((cn_lt (rfl : (a3).toInt = (a3).toInt) (by decide : (0 : Int32).toInt = 0)).trans (decide_eq_false (by omega))) ?_
      refine E_iload_n rfl rfl ?_
      refine E_iload_n rfl rfl ?_
      refine E_ic (t := 14) (b := false) rfl rfl ((cn_gt (rfl : (a3).toInt = (a3).toInt) (by decide : (7 : Int32).toInt = 7)).trans (decide_eq_false (by omega))) ?_
      refine E_iconst (x := 1) rfl (by decide) ?_
      refine E_goto (t := 15) rfl rfl ?_
      exact E_iret rfl rfl
    refine E_callV (v := some (.int 1)) (As := [.ref 65, .int a3, .int 0, .int 7]) (r0 := []) (cs2 := (w0.set 48 (.inl [0, 0, 0, 1, 0, 0, 0, 0]))) rfl rfl rfl (Nat.le_of_ble_eq_true rfl) rfl rfl e5 (by decide) rfl ?_
    refine E_if (t := 15) (b := true) rfl rfl (by decide) ?_
    refine E_aload_n rfl rfl ?_
    refine E_iload_n rfl rfl ?_
    refine E_iload_n rfl rfl ?_
    refine E_bipush (x := 40) rfl (by decide) ?_
    refine E_iload rfl rfl ?_
    refine E_if (t := 31) (b := false) rfl rfl ((cn_eq (rfl : (a4).toInt = (a4).toInt) (by decide : (0 : Int32).toInt = 0)).trans (decide_eq_false (by omega))) ?_
    refine E_iload rfl rfl ?_
    refine E_iconst (x := 1) rfl (by decide) ?_
    refine E_ic (t := 35) (b := true) rfl rfl ((cn_ne (rfl : (a4).toInt = (a4).toInt) (by decide : (1 : Int32).toInt = 1)).trans (decide_eq_true (by omega))) ?_
    refine E_iconst (x := 0) rfl (by decide) ?_
    have e28 : Ev ab_Z0 3 186 [.ref 65, .int 0, .int a2, .int 40, .int 0] (w0.set 48 (.inl [0, 0, 0, 1, 0, 0, 0, 0])) (some (.int (-3)), (w0.set 48 (.inl [0, 0, 0, 1, 0, 0, 0, 0]))) := by
      refine Ef.in (md := mX6_barsOf) (L := [some (.ref 65), some (.int 0), some (.int a2), some (.int 40), some (.int 0), none]) rfl (Nat.le_of_ble_eq_true rfl) rfl ?_
      refine E_aload_n rfl rfl ?_
      refine E_iload_n rfl rfl ?_
      refine E_callV (v := some (.int (-3))) (As := [.ref 65, .int 0]) (r0 := []) (cs2 := (w0.set 48 (.inl [0, 0, 0, 1, 0, 0, 0, 0]))) rfl rfl rfl (Nat.le_of_ble_eq_true rfl) rfl rfl c205_X6_wanted (by decide) rfl ?_
      refine E_istore (L2 := [some (.ref 65), some (.int 0), some (.int a2), some (.int 40), some (.int 0), some (.int (-3))]) rfl rfl ?_
      refine E_iload rfl rfl ?_
      refine E_if (t := 17) (b := false) rfl rfl (by decide) ?_
      refine E_iload rfl rfl ?_
      refine E_goto (t := 59) rfl rfl ?_
      exact E_iret rfl rfl
    refine E_callV (v := some (.int (-3))) (As := [.ref 65, .int 0, .int a2, .int 40, .int 0]) (r0 := []) (cs2 := (w0.set 48 (.inl [0, 0, 0, 1, 0, 0, 0, 0]))) rfl rfl rfl (Nat.le_of_ble_eq_true rfl) rfl rfl e28 (by decide) rfl ?_
    refine E_istore (L2 := [some (.ref 65), some (.int 0), some (.int a2), some (.int a3), some (.int a4), some (.int (-3)), none, none, none, none, none, none]) rfl rfl ?_
    refine E_iconst (x := 0) rfl (by decide) ?_
    refine E_istore (L2 := [some (.ref 65), some (.int 0), some (.int a2), some (.int a3), some (.int a4), some (.int (-3)), some (.int 0), none, none, none, none, none]) rfl rfl ?_
    refine E_iload rfl rfl ?_
    refine E_iload_n rfl rfl ?_
    refine E_ic (t := 80) (b := true) rfl rfl ((cn_ge (by decide : (0 : Int32).toInt = 0) (rfl : (a2).toInt = (a2).toInt)).trans (decide_eq_true (by omega))) ?_
    refine E_iload rfl rfl ?_
    refine E_if (t := 92) (b := false) rfl rfl (by decide) ?_
    refine E_aload_n rfl rfl ?_
    refine E_iload rfl rfl ?_
    refine E_callV (v := some (.int (-13))) (As := [.ref 65, .int (-3)]) (r0 := []) (cs2 := ((w0.set 48 (.inl [0, 0, 0, 1, 0, 0, 0, 0])).set 66 (.inl [0, 0, 0, 1, 0, 0, 0, 0]))) rfl rfl rfl (Nat.le_of_ble_eq_true rfl) rfl rfl c258_X6_noTen (by decide) (by simp only [List.length_set]) ?_
    exact E_iret rfl rfl, (by simp only [List.length_set]; rfl), (by simp only [List.length_set]; rfl), ((ab_szs rfl).trans ((ab_szs rfl).trans rfl)), fun _ => rfl⟩
theorem f_costs_6 (a2 a3 a4 : Int32) (ha2l : (1 : Int) ≤ a2.toInt) (ha3l : (0 : Int) ≤ a3.toInt) (ha3h : a3.toInt ≤ 7) (ha4h : a4.toInt ≤ -1) : p1_P 6 100 4 188 [.ref 0, .int 0, .int a2, .int a3, .int a4] [.ref 65, .int 0, .int a2, .int a3, .int a4] :=
  ⟨(-13), (w0.set 48 (.inl [0, 0, 0, 1, 0, 0, 0, 0])), ((w0.set 48 (.inl [0, 0, 0, 1, 0, 0, 0, 0])).set 66 (.inl [0, 0, 0, 1, 0, 0, 0, 0])), by
    refine Ef.in (md := mX5_costs) (L := [some (.ref 0), some (.int 0), some (.int a2), some (.int a3), some (.int a4), none, none, none, none]) rfl (Nat.le_of_ble_eq_true rfl) rfl ?_
    refine E_iload_n rfl rfl ?_
    have e2 : Ev ab_Z0 1 47 [.int a3] w0 (some (.int 1), w0) := by
      refine Ef.in (md := mX4_isWish) (L := [some (.int a3)]) rfl (Nat.le_of_ble_eq_true rfl) rfl ?_
      refine E_iload_n rfl rfl ?_
      refine E_if (t := 14) (b := false) rfl rfl ((cn_lt (rfl : (a3).toInt = (a3).toInt) (by decide : (0 : Int32).toInt = 0)).trans (decide_eq_false (by omega))) ?_
      refine E_iload_n rfl rfl ?_
      refine E_bipush (x := 8) rfl (by decide) ?_
      refine E_ic (t := 14) (b := false) rfl rfl ((cn_ge (rfl : (a3).toInt = (a3).toInt) (by decide : (8 : Int32).toInt = 8)).trans (decide_eq_false (by omega))) ?_
      refine E_iconst (x := 1) rfl (by decide) ?_
      refine E_goto (t := 15) rfl rfl ?_
      exact E_iret rfl rfl
    refine E_callS (v := some (.int 1)) (As := [.int a3]) (r0 := []) (cs2 := w0) rfl rfl rfl (Nat.le_of_ble_eq_true rfl) rfl e2 (by decide) rfl ?_
    refine E_if (t := 31) (b := false) rfl rfl (by decide) ?_
    refine E_aload_n rfl rfl ?_
    refine E_iload_n rfl rfl ?_
    refine E_iload_n rfl rfl ?_
    refine E_bipush (x := 40) rfl (by decide) ?_
    refine E_iload rfl rfl ?_
    have e19 : Ev ab_Z0 1 116 [.int a4] w0 (some (.int 0), w0) := by
      refine Ef.in (md := mX5_isOneOfTwo) (L := [some (.int a4)]) rfl (Nat.le_of_ble_eq_true rfl) rfl ?_
      refine E_iload_n rfl rfl ?_
      refine E_if (t := 9) (b := false) rfl rfl ((cn_eq (rfl : (a4).toInt = (a4).toInt) (by decide : (0 : Int32).toInt = 0)).trans (decide_eq_false (by omega))) ?_
      refine E_iload_n rfl rfl ?_
      refine E_iconst (x := 1) rfl (by decide) ?_
      refine E_ic (t := 13) (b := true) rfl rfl ((cn_ne (rfl : (a4).toInt = (a4).toInt) (by decide : (1 : Int32).toInt = 1)).trans (decide_eq_true (by omega))) ?_
      refine E_iconst (x := 0) rfl (by decide) ?_
      exact E_iret rfl rfl
    refine E_callS (v := some (.int 0)) (As := [.int a4]) (r0 := [.int 40, .int a2, .int 0, .ref 0]) (cs2 := w0) rfl rfl rfl (Nat.le_of_ble_eq_true rfl) rfl e19 (by decide) rfl ?_
    refine E_if (t := 24) (b := false) rfl rfl (by decide) ?_
    refine E_iconst (x := 1) rfl (by decide) ?_
    refine E_goto (t := 25) rfl rfl ?_
    have e32 : Ev ab_Z0 3 120 [.ref 0, .int 0, .int a2, .int 40, .int 1] w0 (some (.int 3), w0) := by
      refine Ef.in (md := mX5_whyNoTwos) (L := [some (.ref 0), some (.int 0), some (.int a2), some (.int 40), some (.int 1), none]) rfl (Nat.le_of_ble_eq_true rfl) rfl ?_
      refine E_aload_n rfl rfl ?_
      refine E_iload_n rfl rfl ?_
      refine E_callV (v := some (.int 3)) (As := [.ref 0, .int 0]) (r0 := []) (cs2 := w0) rfl rfl rfl (Nat.le_of_ble_eq_true rfl) rfl rfl c29_X5_whyNoRow (by decide) rfl ?_
      refine E_istore (L2 := [some (.ref 0), some (.int 0), some (.int a2), some (.int 40), some (.int 1), some (.int 3)]) rfl rfl ?_
      refine E_iload rfl rfl ?_
      refine E_if (t := 15) (b := false) rfl rfl (by decide) ?_
      refine E_iload rfl rfl ?_
      exact E_iret rfl rfl
    refine E_callV (v := some (.int 3)) (As := [.ref 0, .int 0, .int a2, .int 40, .int 1]) (r0 := []) (cs2 := w0) rfl rfl rfl (Nat.le_of_ble_eq_true rfl) rfl rfl e32 (by decide) rfl ?_
    refine E_goto (t := 32) rfl rfl ?_
    refine E_istore (L2 := [some (.ref 0), some (.int 0), some (.int a2), some (.int a3), some (.int a4), some (.int 3), none, none, none]) rfl rfl ?_
    refine E_iload rfl rfl ?_
    refine E_if (t := 56) (b := true) rfl rfl (by decide) ?_
    refine E_iload rfl rfl ?_
    refine E_if (t := 71) (b := false) rfl rfl (by decide) ?_
    refine E_aload_n rfl rfl ?_
    refine E_iload rfl rfl ?_
    refine E_callV (v := some (.int (-3))) (As := [.ref 0, .int 3]) (r0 := []) (cs2 := (w0.set 48 (.inl [0, 0, 0, 1, 0, 0, 0, 0]))) rfl rfl rfl (Nat.le_of_ble_eq_true rfl) rfl rfl c32_X5_refuse (by decide) (by simp only [List.length_set]) ?_
    refine E_bipush (x := 10) rfl (by decide) ?_
    refine E_isub (z := (-13)) rfl (by decide) ?_
    exact E_iret rfl rfl, by
    refine Ef.in (md := mX6_costs) (L := [some (.ref 65), some (.int 0), some (.int a2), some (.int a3), some (.int a4), none, none, none, none, none, none, none]) rfl (Nat.le_of_ble_eq_true rfl) rfl ?_
    refine E_aload_n rfl rfl ?_
    refine E_iload_n rfl rfl ?_
    refine E_iconst (x := 0) rfl (by decide) ?_
    refine E_bipush (x := 7) rfl (by decide) ?_
    have e5 : Ev ab_Z0 1 134 [.ref 65, .int a3, .int 0, .int 7] (w0.set 48 (.inl [0, 0, 0, 1, 0, 0, 0, 0])) (some (.int 1), (w0.set 48 (.inl [0, 0, 0, 1, 0, 0, 0, 0]))) := by
      refine Ef.in (md := mX6_isFrom) (L := [some (.ref 65), some (.int a3), some (.int 0), some (.int 7)]) rfl (Nat.le_of_ble_eq_true rfl) rfl ?_
      refine E_iload_n rfl rfl ?_
      refine E_iload_n rfl rfl ?_
      refine E_ic (t := 14) (b := false) rfl rfl ((cn_lt (rfl : (a3).toInt = (a3).toInt) (by decide : (0 : Int32).toInt = 0)).trans (decide_eq_false (by omega))) ?_
      refine E_iload_n rfl rfl ?_
      refine E_iload_n rfl rfl ?_
      refine E_ic (t := 14) (b := false) rfl rfl ((cn_gt (rfl : (a3).toInt = (a3).toInt) (by decide : (7 : Int32).toInt = 7)).trans (decide_eq_false (by omega))) ?_
      refine E_iconst (x := 1) rfl (by decide) ?_
      refine E_goto (t := 15) rfl rfl ?_
      exact E_iret rfl rfl
    refine E_callV (v := some (.int 1)) (As := [.ref 65, .int a3, .int 0, .int 7]) (r0 := []) (cs2 := (w0.set 48 (.inl [0, 0, 0, 1, 0, 0, 0, 0]))) rfl rfl rfl (Nat.le_of_ble_eq_true rfl) rfl rfl e5 (by decide) rfl ?_
    refine E_if (t := 15) (b := true) rfl rfl (by decide) ?_
    refine E_aload_n rfl rfl ?_
    refine E_iload_n rfl rfl ?_
    refine E_iload_n rfl rfl ?_
    refine E_bipush (x := 40) rfl (by decide) ?_
    refine E_iload rfl rfl ?_
    refine E_if (t := 31) (b := false) rfl rfl ((cn_eq (rfl : (a4).toInt = (a4).toInt) (by decide : (0 : Int32).toInt = 0)).trans (decide_eq_false (by omega))) ?_
    refine E_iload rfl rfl ?_
    refine E_iconst (x := 1) rfl (by decide) ?_
    refine E_ic (t := 35) (b := true) rfl rfl ((cn_ne (rfl : (a4).toInt = (a4).toInt) (by decide : (1 : Int32).toInt = 1)).trans (decide_eq_true (by omega))) ?_
    refine E_iconst (x := 0) rfl (by decide) ?_
    have e28 : Ev ab_Z0 3 186 [.ref 65, .int 0, .int a2, .int 40, .int 0] (w0.set 48 (.inl [0, 0, 0, 1, 0, 0, 0, 0])) (some (.int (-3)), (w0.set 48 (.inl [0, 0, 0, 1, 0, 0, 0, 0]))) := by
      refine Ef.in (md := mX6_barsOf) (L := [some (.ref 65), some (.int 0), some (.int a2), some (.int 40), some (.int 0), none]) rfl (Nat.le_of_ble_eq_true rfl) rfl ?_
      refine E_aload_n rfl rfl ?_
      refine E_iload_n rfl rfl ?_
      refine E_callV (v := some (.int (-3))) (As := [.ref 65, .int 0]) (r0 := []) (cs2 := (w0.set 48 (.inl [0, 0, 0, 1, 0, 0, 0, 0]))) rfl rfl rfl (Nat.le_of_ble_eq_true rfl) rfl rfl c205_X6_wanted (by decide) rfl ?_
      refine E_istore (L2 := [some (.ref 65), some (.int 0), some (.int a2), some (.int 40), some (.int 0), some (.int (-3))]) rfl rfl ?_
      refine E_iload rfl rfl ?_
      refine E_if (t := 17) (b := false) rfl rfl (by decide) ?_
      refine E_iload rfl rfl ?_
      refine E_goto (t := 59) rfl rfl ?_
      exact E_iret rfl rfl
    refine E_callV (v := some (.int (-3))) (As := [.ref 65, .int 0, .int a2, .int 40, .int 0]) (r0 := []) (cs2 := (w0.set 48 (.inl [0, 0, 0, 1, 0, 0, 0, 0]))) rfl rfl rfl (Nat.le_of_ble_eq_true rfl) rfl rfl e28 (by decide) rfl ?_
    refine E_istore (L2 := [some (.ref 65), some (.int 0), some (.int a2), some (.int a3), some (.int a4), some (.int (-3)), none, none, none, none, none, none]) rfl rfl ?_
    refine E_iconst (x := 0) rfl (by decide) ?_
    refine E_istore (L2 := [some (.ref 65), some (.int 0), some (.int a2), some (.int a3), some (.int a4), some (.int (-3)), some (.int 0), none, none, none, none, none]) rfl rfl ?_
    refine E_iload rfl rfl ?_
    refine E_iload_n rfl rfl ?_
    refine E_ic (t := 80) (b := false) rfl rfl ((cn_ge (by decide : (0 : Int32).toInt = 0) (rfl : (a2).toInt = (a2).toInt)).trans (decide_eq_false (by omega))) ?_
    refine E_iload rfl rfl ?_
    refine E_if (t := 80) (b := true) rfl rfl (by decide) ?_
    refine E_iload rfl rfl ?_
    refine E_if (t := 92) (b := false) rfl rfl (by decide) ?_
    refine E_aload_n rfl rfl ?_
    refine E_iload rfl rfl ?_
    refine E_callV (v := some (.int (-13))) (As := [.ref 65, .int (-3)]) (r0 := []) (cs2 := ((w0.set 48 (.inl [0, 0, 0, 1, 0, 0, 0, 0])).set 66 (.inl [0, 0, 0, 1, 0, 0, 0, 0]))) rfl rfl rfl (Nat.le_of_ble_eq_true rfl) rfl rfl c258_X6_noTen (by decide) (by simp only [List.length_set]) ?_
    exact E_iret rfl rfl, (by simp only [List.length_set]; rfl), (by simp only [List.length_set]; rfl), ((ab_szs rfl).trans ((ab_szs rfl).trans rfl)), fun _ => rfl⟩
theorem f_costs_7 (a2 a3 a4 : Int32) (ha2h : a2.toInt ≤ 0) (ha3l : (0 : Int) ≤ a3.toInt) (ha3h : a3.toInt ≤ 7) (ha4h : a4.toInt ≤ -1) : p1_P 6 100 4 188 [.ref 0, .int 1, .int a2, .int a3, .int a4] [.ref 65, .int 1, .int a2, .int a3, .int a4] :=
  ⟨(-13), (w0.set 48 (.inl [0, 0, 0, 1, 0, 0, 0, 0])), ((w0.set 48 (.inl [0, 0, 0, 1, 0, 0, 0, 0])).set 66 (.inl [0, 0, 0, 1, 0, 0, 0, 0])), by
    refine Ef.in (md := mX5_costs) (L := [some (.ref 0), some (.int 1), some (.int a2), some (.int a3), some (.int a4), none, none, none, none]) rfl (Nat.le_of_ble_eq_true rfl) rfl ?_
    refine E_iload_n rfl rfl ?_
    have e2 : Ev ab_Z0 1 47 [.int a3] w0 (some (.int 1), w0) := by
      refine Ef.in (md := mX4_isWish) (L := [some (.int a3)]) rfl (Nat.le_of_ble_eq_true rfl) rfl ?_
      refine E_iload_n rfl rfl ?_
      refine E_if (t := 14) (b := false) rfl rfl ((cn_lt (rfl : (a3).toInt = (a3).toInt) (by decide : (0 : Int32).toInt = 0)).trans (decide_eq_false (by omega))) ?_
      refine E_iload_n rfl rfl ?_
      refine E_bipush (x := 8) rfl (by decide) ?_
      refine E_ic (t := 14) (b := false) rfl rfl ((cn_ge (rfl : (a3).toInt = (a3).toInt) (by decide : (8 : Int32).toInt = 8)).trans (decide_eq_false (by omega))) ?_
      refine E_iconst (x := 1) rfl (by decide) ?_
      refine E_goto (t := 15) rfl rfl ?_
      exact E_iret rfl rfl
    refine E_callS (v := some (.int 1)) (As := [.int a3]) (r0 := []) (cs2 := w0) rfl rfl rfl (Nat.le_of_ble_eq_true rfl) rfl e2 (by decide) rfl ?_
    refine E_if (t := 31) (b := false) rfl rfl (by decide) ?_
    refine E_aload_n rfl rfl ?_
    refine E_iload_n rfl rfl ?_
    refine E_iload_n rfl rfl ?_
    refine E_bipush (x := 40) rfl (by decide) ?_
    refine E_iload rfl rfl ?_
    have e19 : Ev ab_Z0 1 116 [.int a4] w0 (some (.int 0), w0) := by
      refine Ef.in (md := mX5_isOneOfTwo) (L := [some (.int a4)]) rfl (Nat.le_of_ble_eq_true rfl) rfl ?_
      refine E_iload_n rfl rfl ?_
      refine E_if (t := 9) (b := false) rfl rfl ((cn_eq (rfl : (a4).toInt = (a4).toInt) (by decide : (0 : Int32).toInt = 0)).trans (decide_eq_false (by omega))) ?_
      refine E_iload_n rfl rfl ?_
      refine E_iconst (x := 1) rfl (by decide) ?_
      refine E_ic (t := 13) (b := true) rfl rfl ((cn_ne (rfl : (a4).toInt = (a4).toInt) (by decide : (1 : Int32).toInt = 1)).trans (decide_eq_true (by omega))) ?_
      refine E_iconst (x := 0) rfl (by decide) ?_
      exact E_iret rfl rfl
    refine E_callS (v := some (.int 0)) (As := [.int a4]) (r0 := [.int 40, .int a2, .int 1, .ref 0]) (cs2 := w0) rfl rfl rfl (Nat.le_of_ble_eq_true rfl) rfl e19 (by decide) rfl ?_
    refine E_if (t := 24) (b := false) rfl rfl (by decide) ?_
    refine E_iconst (x := 1) rfl (by decide) ?_
    refine E_goto (t := 25) rfl rfl ?_
    have e32 : Ev ab_Z0 3 120 [.ref 0, .int 1, .int a2, .int 40, .int 1] w0 (some (.int 3), w0) := by
      refine Ef.in (md := mX5_whyNoTwos) (L := [some (.ref 0), some (.int 1), some (.int a2), some (.int 40), some (.int 1), none]) rfl (Nat.le_of_ble_eq_true rfl) rfl ?_
      refine E_aload_n rfl rfl ?_
      refine E_iload_n rfl rfl ?_
      refine E_callV (v := some (.int 3)) (As := [.ref 0, .int 1]) (r0 := []) (cs2 := w0) rfl rfl rfl (Nat.le_of_ble_eq_true rfl) rfl rfl c36_X5_whyNoRow (by decide) rfl ?_
      refine E_istore (L2 := [some (.ref 0), some (.int 1), some (.int a2), some (.int 40), some (.int 1), some (.int 3)]) rfl rfl ?_
      refine E_iload rfl rfl ?_
      refine E_if (t := 15) (b := false) rfl rfl (by decide) ?_
      refine E_iload rfl rfl ?_
      exact E_iret rfl rfl
    refine E_callV (v := some (.int 3)) (As := [.ref 0, .int 1, .int a2, .int 40, .int 1]) (r0 := []) (cs2 := w0) rfl rfl rfl (Nat.le_of_ble_eq_true rfl) rfl rfl e32 (by decide) rfl ?_
    refine E_goto (t := 32) rfl rfl ?_
    refine E_istore (L2 := [some (.ref 0), some (.int 1), some (.int a2), some (.int a3), some (.int a4), some (.int 3), none, none, none]) rfl rfl ?_
    refine E_iload rfl rfl ?_
    refine E_if (t := 56) (b := true) rfl rfl (by decide) ?_
    refine E_iload rfl rfl ?_
    refine E_if (t := 71) (b := false) rfl rfl (by decide) ?_
    refine E_aload_n rfl rfl ?_
    refine E_iload rfl rfl ?_
    refine E_callV (v := some (.int (-3))) (As := [.ref 0, .int 3]) (r0 := []) (cs2 := (w0.set 48 (.inl [0, 0, 0, 1, 0, 0, 0, 0]))) rfl rfl rfl (Nat.le_of_ble_eq_true rfl) rfl rfl c32_X5_refuse (by decide) (by simp only [List.length_set]) ?_
    refine E_bipush (x := 10) rfl (by decide) ?_
    refine E_isub (z := (-13)) rfl (by decide) ?_
    exact E_iret rfl rfl, by
    refine Ef.in (md := mX6_costs) (L := [some (.ref 65), some (.int 1), some (.int a2), some (.int a3), some (.int a4), none, none, none, none, none, none, none]) rfl (Nat.le_of_ble_eq_true rfl) rfl ?_
    refine E_aload_n rfl rfl ?_
    refine E_iload_n rfl rfl ?_
    refine E_iconst (x := 0) rfl (by decide) ?_
    refine E_bipush (x := 7) rfl (by decide) ?_
    have e5 : Ev ab_Z0 1 134 [.ref 65, .int a3, .int 0, .int 7] (w0.set 48 (.inl [0, 0, 0, 1, 0, 0, 0, 0])) (some (.int 1), (w0.set 48 (.inl [0, 0, 0, 1, 0, 0, 0, 0]))) := by
      refine Ef.in (md := mX6_isFrom) (L := [some (.ref 65), some (.int a3), some (.int 0), some (.int 7)]) rfl (Nat.le_of_ble_eq_true rfl) rfl ?_
      refine E_iload_n rfl rfl ?_
      refine E_iload_n rfl rfl ?_
      refine E_ic (t := 14) (b := false) rfl rfl ((cn_lt (rfl : (a3).toInt = (a3).toInt) (by decide : (0 : Int32).toInt = 0)).trans (decide_eq_false (by omega))) ?_
      refine E_iload_n rfl rfl ?_
      refine E_iload_n rfl rfl ?_
      refine E_ic (t := 14) (b := false) rfl rfl ((cn_gt (rfl : (a3).toInt = (a3).toInt) (by decide : (7 : Int32).toInt = 7)).trans (decide_eq_false (by omega))) ?_
      refine E_iconst (x := 1) rfl (by decide) ?_
      refine E_goto (t := 15) rfl rfl ?_
      exact E_iret rfl rfl
    refine E_callV (v := some (.int 1)) (As := [.ref 65, .int a3, .int 0, .int 7]) (r0 := []) (cs2 := (w0.set 48 (.inl [0, 0, 0, 1, 0, 0, 0, 0]))) rfl rfl rfl (Nat.le_of_ble_eq_true rfl) rfl rfl e5 (by decide) rfl ?_
    refine E_if (t := 15) (b := true) rfl rfl (by decide) ?_
    refine E_aload_n rfl rfl ?_
    refine E_iload_n rfl rfl ?_
    refine E_iload_n rfl rfl ?_
    refine E_bipush (x := 40) rfl (by decide) ?_
    refine E_iload rfl rfl ?_
    refine E_if (t := 31) (b := false) rfl rfl ((cn_eq (rfl : (a4).toInt = (a4).toInt) (by decide : (0 : Int32).toInt = 0)).trans (decide_eq_false (by omega))) ?_
    refine E_iload rfl rfl ?_
    refine E_iconst (x := 1) rfl (by decide) ?_
    refine E_ic (t := 35) (b := true) rfl rfl ((cn_ne (rfl : (a4).toInt = (a4).toInt) (by decide : (1 : Int32).toInt = 1)).trans (decide_eq_true (by omega))) ?_
    refine E_iconst (x := 0) rfl (by decide) ?_
    have e28 : Ev ab_Z0 3 186 [.ref 65, .int 1, .int a2, .int 40, .int 0] (w0.set 48 (.inl [0, 0, 0, 1, 0, 0, 0, 0])) (some (.int (-3)), (w0.set 48 (.inl [0, 0, 0, 1, 0, 0, 0, 0]))) := by
      refine Ef.in (md := mX6_barsOf) (L := [some (.ref 65), some (.int 1), some (.int a2), some (.int 40), some (.int 0), none]) rfl (Nat.le_of_ble_eq_true rfl) rfl ?_
      refine E_aload_n rfl rfl ?_
      refine E_iload_n rfl rfl ?_
      refine E_callV (v := some (.int (-3))) (As := [.ref 65, .int 1]) (r0 := []) (cs2 := (w0.set 48 (.inl [0, 0, 0, 1, 0, 0, 0, 0]))) rfl rfl rfl (Nat.le_of_ble_eq_true rfl) rfl rfl c208_X6_wanted (by decide) rfl ?_
      refine E_istore (L2 := [some (.ref 65), some (.int 1), some (.int a2), some (.int 40), some (.int 0), some (.int (-3))]) rfl rfl ?_
      refine E_iload rfl rfl ?_
      refine E_if (t := 17) (b := false) rfl rfl (by decide) ?_
      refine E_iload rfl rfl ?_
      refine E_goto (t := 59) rfl rfl ?_
      exact E_iret rfl rfl
    refine E_callV (v := some (.int (-3))) (As := [.ref 65, .int 1, .int a2, .int 40, .int 0]) (r0 := []) (cs2 := (w0.set 48 (.inl [0, 0, 0, 1, 0, 0, 0, 0]))) rfl rfl rfl (Nat.le_of_ble_eq_true rfl) rfl rfl e28 (by decide) rfl ?_
    refine E_istore (L2 := [some (.ref 65), some (.int 1), some (.int a2), some (.int a3), some (.int a4), some (.int (-3)), none, none, none, none, none, none]) rfl rfl ?_
    refine E_iconst (x := 0) rfl (by decide) ?_
    refine E_istore (L2 := [some (.ref 65), some (.int 1), some (.int a2), some (.int a3), some (.int a4), some (.int (-3)), some (.int 0), none, none, none, none, none]) rfl rfl ?_
    refine E_iload rfl rfl ?_
    refine E_iload_n rfl rfl ?_
    refine E_ic (t := 80) (b := true) rfl rfl ((cn_ge (by decide : (0 : Int32).toInt = 0) (rfl : (a2).toInt = (a2).toInt)).trans (decide_eq_true (by omega))) ?_
    refine E_iload rfl rfl ?_
    refine E_if (t := 92) (b := false) rfl rfl (by decide) ?_
    refine E_aload_n rfl rfl ?_
    refine E_iload rfl rfl ?_
    refine E_callV (v := some (.int (-13))) (As := [.ref 65, .int (-3)]) (r0 := []) (cs2 := ((w0.set 48 (.inl [0, 0, 0, 1, 0, 0, 0, 0])).set 66 (.inl [0, 0, 0, 1, 0, 0, 0, 0]))) rfl rfl rfl (Nat.le_of_ble_eq_true rfl) rfl rfl c258_X6_noTen (by decide) (by simp only [List.length_set]) ?_
    exact E_iret rfl rfl, (by simp only [List.length_set]; rfl), (by simp only [List.length_set]; rfl), ((ab_szs rfl).trans ((ab_szs rfl).trans rfl)), fun _ => rfl⟩
theorem f_costs_8 (a2 a3 a4 : Int32) (ha2l : (1 : Int) ≤ a2.toInt) (ha3l : (0 : Int) ≤ a3.toInt) (ha3h : a3.toInt ≤ 7) (ha4h : a4.toInt ≤ -1) : p1_P 6 100 4 188 [.ref 0, .int 1, .int a2, .int a3, .int a4] [.ref 65, .int 1, .int a2, .int a3, .int a4] :=
  ⟨(-13), (w0.set 48 (.inl [0, 0, 0, 1, 0, 0, 0, 0])), ((w0.set 48 (.inl [0, 0, 0, 1, 0, 0, 0, 0])).set 66 (.inl [0, 0, 0, 1, 0, 0, 0, 0])), by
    refine Ef.in (md := mX5_costs) (L := [some (.ref 0), some (.int 1), some (.int a2), some (.int a3), some (.int a4), none, none, none, none]) rfl (Nat.le_of_ble_eq_true rfl) rfl ?_
    refine E_iload_n rfl rfl ?_
    have e2 : Ev ab_Z0 1 47 [.int a3] w0 (some (.int 1), w0) := by
      refine Ef.in (md := mX4_isWish) (L := [some (.int a3)]) rfl (Nat.le_of_ble_eq_true rfl) rfl ?_
      refine E_iload_n rfl rfl ?_
      refine E_if (t := 14) (b := false) rfl rfl ((cn_lt (rfl : (a3).toInt = (a3).toInt) (by decide : (0 : Int32).toInt = 0)).trans (decide_eq_false (by omega))) ?_
      refine E_iload_n rfl rfl ?_
      refine E_bipush (x := 8) rfl (by decide) ?_
      refine E_ic (t := 14) (b := false) rfl rfl ((cn_ge (rfl : (a3).toInt = (a3).toInt) (by decide : (8 : Int32).toInt = 8)).trans (decide_eq_false (by omega))) ?_
      refine E_iconst (x := 1) rfl (by decide) ?_
      refine E_goto (t := 15) rfl rfl ?_
      exact E_iret rfl rfl
    refine E_callS (v := some (.int 1)) (As := [.int a3]) (r0 := []) (cs2 := w0) rfl rfl rfl (Nat.le_of_ble_eq_true rfl) rfl e2 (by decide) rfl ?_
    refine E_if (t := 31) (b := false) rfl rfl (by decide) ?_
    refine E_aload_n rfl rfl ?_
    refine E_iload_n rfl rfl ?_
    refine E_iload_n rfl rfl ?_
    refine E_bipush (x := 40) rfl (by decide) ?_
    refine E_iload rfl rfl ?_
    have e19 : Ev ab_Z0 1 116 [.int a4] w0 (some (.int 0), w0) := by
      refine Ef.in (md := mX5_isOneOfTwo) (L := [some (.int a4)]) rfl (Nat.le_of_ble_eq_true rfl) rfl ?_
      refine E_iload_n rfl rfl ?_
      refine E_if (t := 9) (b := false) rfl rfl ((cn_eq (rfl : (a4).toInt = (a4).toInt) (by decide : (0 : Int32).toInt = 0)).trans (decide_eq_false (by omega))) ?_
      refine E_iload_n rfl rfl ?_
      refine E_iconst (x := 1) rfl (by decide) ?_
      refine E_ic (t := 13) (b := true) rfl rfl ((cn_ne (rfl : (a4).toInt = (a4).toInt) (by decide : (1 : Int32).toInt = 1)).trans (decide_eq_true (by omega))) ?_
      refine E_iconst (x := 0) rfl (by decide) ?_
      exact E_iret rfl rfl
    refine E_callS (v := some (.int 0)) (As := [.int a4]) (r0 := [.int 40, .int a2, .int 1, .ref 0]) (cs2 := w0) rfl rfl rfl (Nat.le_of_ble_eq_true rfl) rfl e19 (by decide) rfl ?_
    refine E_if (t := 24) (b := false) rfl rfl (by decide) ?_
    refine E_iconst (x := 1) rfl (by decide) ?_
    refine E_goto (t := 25) rfl rfl ?_
    have e32 : Ev ab_Z0 3 120 [.ref 0, .int 1, .int a2, .int 40, .int 1] w0 (some (.int 3), w0) := by
      refine Ef.in (md := mX5_whyNoTwos) (L := [some (.ref 0), some (.int 1), some (.int a2), some (.int 40), some (.int 1), none]) rfl (Nat.le_of_ble_eq_true rfl) rfl ?_
      refine E_aload_n rfl rfl ?_
      refine E_iload_n rfl rfl ?_
      refine E_callV (v := some (.int 3)) (As := [.ref 0, .int 1]) (r0 := []) (cs2 := w0) rfl rfl rfl (Nat.le_of_ble_eq_true rfl) rfl rfl c36_X5_whyNoRow (by decide) rfl ?_
      refine E_istore (L2 := [some (.ref 0), some (.int 1), some (.int a2), some (.int 40), some (.int 1), some (.int 3)]) rfl rfl ?_
      refine E_iload rfl rfl ?_
      refine E_if (t := 15) (b := false) rfl rfl (by decide) ?_
      refine E_iload rfl rfl ?_
      exact E_iret rfl rfl
    refine E_callV (v := some (.int 3)) (As := [.ref 0, .int 1, .int a2, .int 40, .int 1]) (r0 := []) (cs2 := w0) rfl rfl rfl (Nat.le_of_ble_eq_true rfl) rfl rfl e32 (by decide) rfl ?_
    refine E_goto (t := 32) rfl rfl ?_
    refine E_istore (L2 := [some (.ref 0), some (.int 1), some (.int a2), some (.int a3), some (.int a4), some (.int 3), none, none, none]) rfl rfl ?_
    refine E_iload rfl rfl ?_
    refine E_if (t := 56) (b := true) rfl rfl (by decide) ?_
    refine E_iload rfl rfl ?_
    refine E_if (t := 71) (b := false) rfl rfl (by decide) ?_
    refine E_aload_n rfl rfl ?_
    refine E_iload rfl rfl ?_
    refine E_callV (v := some (.int (-3))) (As := [.ref 0, .int 3]) (r0 := []) (cs2 := (w0.set 48 (.inl [0, 0, 0, 1, 0, 0, 0, 0]))) rfl rfl rfl (Nat.le_of_ble_eq_true rfl) rfl rfl c32_X5_refuse (by decide) (by simp only [List.length_set]) ?_
    refine E_bipush (x := 10) rfl (by decide) ?_
    refine E_isub (z := (-13)) rfl (by decide) ?_
    exact E_iret rfl rfl, by
    refine Ef.in (md := mX6_costs) (L := [some (.ref 65), some (.int 1), some (.int a2), some (.int a3), some (.int a4), none, none, none, none, none, none, none]) rfl (Nat.le_of_ble_eq_true rfl) rfl ?_
    refine E_aload_n rfl rfl ?_
    refine E_iload_n rfl rfl ?_
    refine E_iconst (x := 0) rfl (by decide) ?_
    refine E_bipush (x := 7) rfl (by decide) ?_
    have e5 : Ev ab_Z0 1 134 [.ref 65, .int a3, .int 0, .int 7] (w0.set 48 (.inl [0, 0, 0, 1, 0, 0, 0, 0])) (some (.int 1), (w0.set 48 (.inl [0, 0, 0, 1, 0, 0, 0, 0]))) := by
      refine Ef.in (md := mX6_isFrom) (L := [some (.ref 65), some (.int a3), some (.int 0), some (.int 7)]) rfl (Nat.le_of_ble_eq_true rfl) rfl ?_
      refine E_iload_n rfl rfl ?_
      refine E_iload_n rfl rfl ?_
      refine E_ic (t := 14) (b := false) rfl rfl ((cn_lt (rfl : (a3).toInt = (a3).toInt) (by decide : (0 : Int32).toInt = 0)).trans (decide_eq_false (by omega))) ?_
      refine E_iload_n rfl rfl ?_
      refine E_iload_n rfl rfl ?_
      refine E_ic (t := 14) (b := false) rfl rfl ((cn_gt (rfl : (a3).toInt = (a3).toInt) (by decide : (7 : Int32).toInt = 7)).trans (decide_eq_false (by omega))) ?_
      refine E_iconst (x := 1) rfl (by decide) ?_
      refine E_goto (t := 15) rfl rfl ?_
      exact E_iret rfl rfl
    refine E_callV (v := some (.int 1)) (As := [.ref 65, .int a3, .int 0, .int 7]) (r0 := []) (cs2 := (w0.set 48 (.inl [0, 0, 0, 1, 0, 0, 0, 0]))) rfl rfl rfl (Nat.le_of_ble_eq_true rfl) rfl rfl e5 (by decide) rfl ?_
    refine E_if (t := 15) (b := true) rfl rfl (by decide) ?_
    refine E_aload_n rfl rfl ?_
    refine E_iload_n rfl rfl ?_
    refine E_iload_n rfl rfl ?_
    refine E_bipush (x := 40) rfl (by decide) ?_
    refine E_iload rfl rfl ?_
    refine E_if (t := 31) (b := false) rfl rfl ((cn_eq (rfl : (a4).toInt = (a4).toInt) (by decide : (0 : Int32).toInt = 0)).trans (decide_eq_false (by omega))) ?_
    refine E_iload rfl rfl ?_
    refine E_iconst (x := 1) rfl (by decide) ?_
    refine E_ic (t := 35) (b := true) rfl rfl ((cn_ne (rfl : (a4).toInt = (a4).toInt) (by decide : (1 : Int32).toInt = 1)).trans (decide_eq_true (by omega))) ?_
    refine E_iconst (x := 0) rfl (by decide) ?_
    have e28 : Ev ab_Z0 3 186 [.ref 65, .int 1, .int a2, .int 40, .int 0] (w0.set 48 (.inl [0, 0, 0, 1, 0, 0, 0, 0])) (some (.int (-3)), (w0.set 48 (.inl [0, 0, 0, 1, 0, 0, 0, 0]))) := by
      refine Ef.in (md := mX6_barsOf) (L := [some (.ref 65), some (.int 1), some (.int a2), some (.int 40), some (.int 0), none]) rfl (Nat.le_of_ble_eq_true rfl) rfl ?_
      refine E_aload_n rfl rfl ?_
      refine E_iload_n rfl rfl ?_
      refine E_callV (v := some (.int (-3))) (As := [.ref 65, .int 1]) (r0 := []) (cs2 := (w0.set 48 (.inl [0, 0, 0, 1, 0, 0, 0, 0]))) rfl rfl rfl (Nat.le_of_ble_eq_true rfl) rfl rfl c208_X6_wanted (by decide) rfl ?_
      refine E_istore (L2 := [some (.ref 65), some (.int 1), some (.int a2), some (.int 40), some (.int 0), some (.int (-3))]) rfl rfl ?_
      refine E_iload rfl rfl ?_
      refine E_if (t := 17) (b := false) rfl rfl (by decide) ?_
      refine E_iload rfl rfl ?_
      refine E_goto (t := 59) rfl rfl ?_
      exact E_iret rfl rfl
    refine E_callV (v := some (.int (-3))) (As := [.ref 65, .int 1, .int a2, .int 40, .int 0]) (r0 := []) (cs2 := (w0.set 48 (.inl [0, 0, 0, 1, 0, 0, 0, 0]))) rfl rfl rfl (Nat.le_of_ble_eq_true rfl) rfl rfl e28 (by decide) rfl ?_
    refine E_istore (L2 := [some (.ref 65), some (.int 1), some (.int a2), some (.int a3), some (.int a4), some (.int (-3)), none, none, none, none, none, none]) rfl rfl ?_
    refine E_iconst (x := 0) rfl (by decide) ?_
    refine E_istore (L2 := [some (.ref 65), some (.int 1), some (.int a2), some (.int a3), some (.int a4), some (.int (-3)), some (.int 0), none, none, none, none, none]) rfl rfl ?_
    refine E_iload rfl rfl ?_
    refine E_iload_n rfl rfl ?_
    refine E_ic (t := 80) (b := false) rfl rfl ((cn_ge (by decide : (0 : Int32).toInt = 0) (rfl : (a2).toInt = (a2).toInt)).trans (decide_eq_false (by omega))) ?_
    refine E_iload rfl rfl ?_
    refine E_if (t := 80) (b := true) rfl rfl (by decide) ?_
    refine E_iload rfl rfl ?_
    refine E_if (t := 92) (b := false) rfl rfl (by decide) ?_
    refine E_aload_n rfl rfl ?_
    refine E_iload rfl rfl ?_
    refine E_callV (v := some (.int (-13))) (As := [.ref 65, .int (-3)]) (r0 := []) (cs2 := ((w0.set 48 (.inl [0, 0, 0, 1, 0, 0, 0, 0])).set 66 (.inl [0, 0, 0, 1, 0, 0, 0, 0]))) rfl rfl rfl (Nat.le_of_ble_eq_true rfl) rfl rfl c258_X6_noTen (by decide) (by simp only [List.length_set]) ?_
    exact E_iret rfl rfl, (by simp only [List.length_set]; rfl), (by simp only [List.length_set]; rfl), ((ab_szs rfl).trans ((ab_szs rfl).trans rfl)), fun _ => rfl⟩
theorem f_costs_9 (a2 a3 a4 : Int32) (ha2h : a2.toInt ≤ 0) (ha3l : (0 : Int) ≤ a3.toInt) (ha3h : a3.toInt ≤ 7) (ha4h : a4.toInt ≤ -1) : p1_P 6 100 4 188 [.ref 0, .int 2, .int a2, .int a3, .int a4] [.ref 65, .int 2, .int a2, .int a3, .int a4] :=
  ⟨(-13), (w0.set 48 (.inl [0, 0, 0, 1, 0, 0, 0, 0])), ((w0.set 48 (.inl [0, 0, 0, 1, 0, 0, 0, 0])).set 66 (.inl [0, 0, 0, 1, 0, 0, 0, 0])), by
    refine Ef.in (md := mX5_costs) (L := [some (.ref 0), some (.int 2), some (.int a2), some (.int a3), some (.int a4), none, none, none, none]) rfl (Nat.le_of_ble_eq_true rfl) rfl ?_
    refine E_iload_n rfl rfl ?_
    have e2 : Ev ab_Z0 1 47 [.int a3] w0 (some (.int 1), w0) := by
      refine Ef.in (md := mX4_isWish) (L := [some (.int a3)]) rfl (Nat.le_of_ble_eq_true rfl) rfl ?_
      refine E_iload_n rfl rfl ?_
      refine E_if (t := 14) (b := false) rfl rfl ((cn_lt (rfl : (a3).toInt = (a3).toInt) (by decide : (0 : Int32).toInt = 0)).trans (decide_eq_false (by omega))) ?_
      refine E_iload_n rfl rfl ?_
      refine E_bipush (x := 8) rfl (by decide) ?_
      refine E_ic (t := 14) (b := false) rfl rfl ((cn_ge (rfl : (a3).toInt = (a3).toInt) (by decide : (8 : Int32).toInt = 8)).trans (decide_eq_false (by omega))) ?_
      refine E_iconst (x := 1) rfl (by decide) ?_
      refine E_goto (t := 15) rfl rfl ?_
      exact E_iret rfl rfl
    refine E_callS (v := some (.int 1)) (As := [.int a3]) (r0 := []) (cs2 := w0) rfl rfl rfl (Nat.le_of_ble_eq_true rfl) rfl e2 (by decide) rfl ?_
    refine E_if (t := 31) (b := false) rfl rfl (by decide) ?_
    refine E_aload_n rfl rfl ?_
    refine E_iload_n rfl rfl ?_
    refine E_iload_n rfl rfl ?_
    refine E_bipush (x := 40) rfl (by decide) ?_
    refine E_iload rfl rfl ?_
    have e19 : Ev ab_Z0 1 116 [.int a4] w0 (some (.int 0), w0) := by
      refine Ef.in (md := mX5_isOneOfTwo) (L := [some (.int a4)]) rfl (Nat.le_of_ble_eq_true rfl) rfl ?_
      refine E_iload_n rfl rfl ?_
      refine E_if (t := 9) (b := false) rfl rfl ((cn_eq (rfl : (a4).toInt = (a4).toInt) (by decide : (0 : Int32).toInt = 0)).trans (decide_eq_false (by omega))) ?_
      refine E_iload_n rfl rfl ?_
      refine E_iconst (x := 1) rfl (by decide) ?_
      refine E_ic (t := 13) (b := true) rfl rfl ((cn_ne (rfl : (a4).toInt = (a4).toInt) (by decide : (1 : Int32).toInt = 1)).trans (decide_eq_true (by omega))) ?_
      refine E_iconst (x := 0) rfl (by decide) ?_
      exact E_iret rfl rfl
    refine E_callS (v := some (.int 0)) (As := [.int a4]) (r0 := [.int 40, .int a2, .int 2, .ref 0]) (cs2 := w0) rfl rfl rfl (Nat.le_of_ble_eq_true rfl) rfl e19 (by decide) rfl ?_
    refine E_if (t := 24) (b := false) rfl rfl (by decide) ?_
    refine E_iconst (x := 1) rfl (by decide) ?_
    refine E_goto (t := 25) rfl rfl ?_
    have e32 : Ev ab_Z0 3 120 [.ref 0, .int 2, .int a2, .int 40, .int 1] w0 (some (.int 3), w0) := by
      refine Ef.in (md := mX5_whyNoTwos) (L := [some (.ref 0), some (.int 2), some (.int a2), some (.int 40), some (.int 1), none]) rfl (Nat.le_of_ble_eq_true rfl) rfl ?_
      refine E_aload_n rfl rfl ?_
      refine E_iload_n rfl rfl ?_
      refine E_callV (v := some (.int 3)) (As := [.ref 0, .int 2]) (r0 := []) (cs2 := w0) rfl rfl rfl (Nat.le_of_ble_eq_true rfl) rfl rfl c40_X5_whyNoRow (by decide) rfl ?_
      refine E_istore (L2 := [some (.ref 0), some (.int 2), some (.int a2), some (.int 40), some (.int 1), some (.int 3)]) rfl rfl ?_
      refine E_iload rfl rfl ?_
      refine E_if (t := 15) (b := false) rfl rfl (by decide) ?_
      refine E_iload rfl rfl ?_
      exact E_iret rfl rfl
    refine E_callV (v := some (.int 3)) (As := [.ref 0, .int 2, .int a2, .int 40, .int 1]) (r0 := []) (cs2 := w0) rfl rfl rfl (Nat.le_of_ble_eq_true rfl) rfl rfl e32 (by decide) rfl ?_
    refine E_goto (t := 32) rfl rfl ?_
    refine E_istore (L2 := [some (.ref 0), some (.int 2), some (.int a2), some (.int a3), some (.int a4), some (.int 3), none, none, none]) rfl rfl ?_
    refine E_iload rfl rfl ?_
    refine E_if (t := 56) (b := true) rfl rfl (by decide) ?_
    refine E_iload rfl rfl ?_
    refine E_if (t := 71) (b := false) rfl rfl (by decide) ?_
    refine E_aload_n rfl rfl ?_
    refine E_iload rfl rfl ?_
    refine E_callV (v := some (.int (-3))) (As := [.ref 0, .int 3]) (r0 := []) (cs2 := (w0.set 48 (.inl [0, 0, 0, 1, 0, 0, 0, 0]))) rfl rfl rfl (Nat.le_of_ble_eq_true rfl) rfl rfl c32_X5_refuse (by decide) (by simp only [List.length_set]) ?_
    refine E_bipush (x := 10) rfl (by decide) ?_
    refine E_isub (z := (-13)) rfl (by decide) ?_
    exact E_iret rfl rfl, by
    refine Ef.in (md := mX6_costs) (L := [some (.ref 65), some (.int 2), some (.int a2), some (.int a3), some (.int a4), none, none, none, none, none, none, none]) rfl (Nat.le_of_ble_eq_true rfl) rfl ?_
    refine E_aload_n rfl rfl ?_
    refine E_iload_n rfl rfl ?_
    refine E_iconst (x := 0) rfl (by decide) ?_
    refine E_bipush (x := 7) rfl (by decide) ?_
    have e5 : Ev ab_Z0 1 134 [.ref 65, .int a3, .int 0, .int 7] (w0.set 48 (.inl [0, 0, 0, 1, 0, 0, 0, 0])) (some (.int 1), (w0.set 48 (.inl [0, 0, 0, 1, 0, 0, 0, 0]))) := by
      refine Ef.in (md := mX6_isFrom) (L := [some (.ref 65), some (.int a3), some (.int 0), some (.int 7)]) rfl (Nat.le_of_ble_eq_true rfl) rfl ?_
      refine E_iload_n rfl rfl ?_
      refine E_iload_n rfl rfl ?_
      refine E_ic (t := 14) (b := false) rfl rfl ((cn_lt (rfl : (a3).toInt = (a3).toInt) (by decide : (0 : Int32).toInt = 0)).trans (decide_eq_false (by omega))) ?_
      refine E_iload_n rfl rfl ?_
      refine E_iload_n rfl rfl ?_
      refine E_ic (t := 14) (b := false) rfl rfl ((cn_gt (rfl : (a3).toInt = (a3).toInt) (by decide : (7 : Int32).toInt = 7)).trans (decide_eq_false (by omega))) ?_
      refine E_iconst (x := 1) rfl (by decide) ?_
      refine E_goto (t := 15) rfl rfl ?_
      exact E_iret rfl rfl
    refine E_callV (v := some (.int 1)) (As := [.ref 65, .int a3, .int 0, .int 7]) (r0 := []) (cs2 := (w0.set 48 (.inl [0, 0, 0, 1, 0, 0, 0, 0]))) rfl rfl rfl (Nat.le_of_ble_eq_true rfl) rfl rfl e5 (by decide) rfl ?_
    refine E_if (t := 15) (b := true) rfl rfl (by decide) ?_
    refine E_aload_n rfl rfl ?_
    refine E_iload_n rfl rfl ?_
    refine E_iload_n rfl rfl ?_
    refine E_bipush (x := 40) rfl (by decide) ?_
    refine E_iload rfl rfl ?_
    refine E_if (t := 31) (b := false) rfl rfl ((cn_eq (rfl : (a4).toInt = (a4).toInt) (by decide : (0 : Int32).toInt = 0)).trans (decide_eq_false (by omega))) ?_
    refine E_iload rfl rfl ?_
    refine E_iconst (x := 1) rfl (by decide) ?_
    refine E_ic (t := 35) (b := true) rfl rfl ((cn_ne (rfl : (a4).toInt = (a4).toInt) (by decide : (1 : Int32).toInt = 1)).trans (decide_eq_true (by omega))) ?_
    refine E_iconst (x := 0) rfl (by decide) ?_
    have e28 : Ev ab_Z0 3 186 [.ref 65, .int 2, .int a2, .int 40, .int 0] (w0.set 48 (.inl [0, 0, 0, 1, 0, 0, 0, 0])) (some (.int (-3)), (w0.set 48 (.inl [0, 0, 0, 1, 0, 0, 0, 0]))) := by
      refine Ef.in (md := mX6_barsOf) (L := [some (.ref 65), some (.int 2), some (.int a2), some (.int 40), some (.int 0), none]) rfl (Nat.le_of_ble_eq_true rfl) rfl ?_
      refine E_aload_n rfl rfl ?_
      refine E_iload_n rfl rfl ?_
      refine E_callV (v := some (.int (-3))) (As := [.ref 65, .int 2]) (r0 := []) (cs2 := (w0.set 48 (.inl [0, 0, 0, 1, 0, 0, 0, 0]))) rfl rfl rfl (Nat.le_of_ble_eq_true rfl) rfl rfl c211_X6_wanted (by decide) rfl ?_
      refine E_istore (L2 := [some (.ref 65), some (.int 2), some (.int a2), some (.int 40), some (.int 0), some (.int (-3))]) rfl rfl ?_
      refine E_iload rfl rfl ?_
      refine E_if (t := 17) (b := false) rfl rfl (by decide) ?_
      refine E_iload rfl rfl ?_
      refine E_goto (t := 59) rfl rfl ?_
      exact E_iret rfl rfl
    refine E_callV (v := some (.int (-3))) (As := [.ref 65, .int 2, .int a2, .int 40, .int 0]) (r0 := []) (cs2 := (w0.set 48 (.inl [0, 0, 0, 1, 0, 0, 0, 0]))) rfl rfl rfl (Nat.le_of_ble_eq_true rfl) rfl rfl e28 (by decide) rfl ?_
    refine E_istore (L2 := [some (.ref 65), some (.int 2), some (.int a2), some (.int a3), some (.int a4), some (.int (-3)), none, none, none, none, none, none]) rfl rfl ?_
    refine E_iconst (x := 0) rfl (by decide) ?_
    refine E_istore (L2 := [some (.ref 65), some (.int 2), some (.int a2), some (.int a3), some (.int a4), some (.int (-3)), some (.int 0), none, none, none, none, none]) rfl rfl ?_
    refine E_iload rfl rfl ?_
    refine E_iload_n rfl rfl ?_
    refine E_ic (t := 80) (b := true) rfl rfl ((cn_ge (by decide : (0 : Int32).toInt = 0) (rfl : (a2).toInt = (a2).toInt)).trans (decide_eq_true (by omega))) ?_
    refine E_iload rfl rfl ?_
    refine E_if (t := 92) (b := false) rfl rfl (by decide) ?_
    refine E_aload_n rfl rfl ?_
    refine E_iload rfl rfl ?_
    refine E_callV (v := some (.int (-13))) (As := [.ref 65, .int (-3)]) (r0 := []) (cs2 := ((w0.set 48 (.inl [0, 0, 0, 1, 0, 0, 0, 0])).set 66 (.inl [0, 0, 0, 1, 0, 0, 0, 0]))) rfl rfl rfl (Nat.le_of_ble_eq_true rfl) rfl rfl c258_X6_noTen (by decide) (by simp only [List.length_set]) ?_
    exact E_iret rfl rfl, (by simp only [List.length_set]; rfl), (by simp only [List.length_set]; rfl), ((ab_szs rfl).trans ((ab_szs rfl).trans rfl)), fun _ => rfl⟩
theorem f_costs_10 (a2 a3 a4 : Int32) (ha2l : (1 : Int) ≤ a2.toInt) (ha3l : (0 : Int) ≤ a3.toInt) (ha3h : a3.toInt ≤ 7) (ha4h : a4.toInt ≤ -1) : p1_P 6 100 4 188 [.ref 0, .int 2, .int a2, .int a3, .int a4] [.ref 65, .int 2, .int a2, .int a3, .int a4] :=
  ⟨(-13), (w0.set 48 (.inl [0, 0, 0, 1, 0, 0, 0, 0])), ((w0.set 48 (.inl [0, 0, 0, 1, 0, 0, 0, 0])).set 66 (.inl [0, 0, 0, 1, 0, 0, 0, 0])), by
    refine Ef.in (md := mX5_costs) (L := [some (.ref 0), some (.int 2), some (.int a2), some (.int a3), some (.int a4), none, none, none, none]) rfl (Nat.le_of_ble_eq_true rfl) rfl ?_
    refine E_iload_n rfl rfl ?_
    have e2 : Ev ab_Z0 1 47 [.int a3] w0 (some (.int 1), w0) := by
      refine Ef.in (md := mX4_isWish) (L := [some (.int a3)]) rfl (Nat.le_of_ble_eq_true rfl) rfl ?_
      refine E_iload_n rfl rfl ?_
      refine E_if (t := 14) (b := false) rfl rfl ((cn_lt (rfl : (a3).toInt = (a3).toInt) (by decide : (0 : Int32).toInt = 0)).trans (decide_eq_false (by omega))) ?_
      refine E_iload_n rfl rfl ?_
      refine E_bipush (x := 8) rfl (by decide) ?_
      refine E_ic (t := 14) (b := false) rfl rfl ((cn_ge (rfl : (a3).toInt = (a3).toInt) (by decide : (8 : Int32).toInt = 8)).trans (decide_eq_false (by omega))) ?_
      refine E_iconst (x := 1) rfl (by decide) ?_
      refine E_goto (t := 15) rfl rfl ?_
      exact E_iret rfl rfl
    refine E_callS (v := some (.int 1)) (As := [.int a3]) (r0 := []) (cs2 := w0) rfl rfl rfl (Nat.le_of_ble_eq_true rfl) rfl e2 (by decide) rfl ?_
    refine E_if (t := 31) (b := false) rfl rfl (by decide) ?_
    refine E_aload_n rfl rfl ?_
    refine E_iload_n rfl rfl ?_
    refine E_iload_n rfl rfl ?_
    refine E_bipush (x := 40) rfl (by decide) ?_
    refine E_iload rfl rfl ?_
    have e19 : Ev ab_Z0 1 116 [.int a4] w0 (some (.int 0), w0) := by
      refine Ef.in (md := mX5_isOneOfTwo) (L := [some (.int a4)]) rfl (Nat.le_of_ble_eq_true rfl) rfl ?_
      refine E_iload_n rfl rfl ?_
      refine E_if (t := 9) (b := false) rfl rfl ((cn_eq (rfl : (a4).toInt = (a4).toInt) (by decide : (0 : Int32).toInt = 0)).trans (decide_eq_false (by omega))) ?_
      refine E_iload_n rfl rfl ?_
      refine E_iconst (x := 1) rfl (by decide) ?_
      refine E_ic (t := 13) (b := true) rfl rfl ((cn_ne (rfl : (a4).toInt = (a4).toInt) (by decide : (1 : Int32).toInt = 1)).trans (decide_eq_true (by omega))) ?_
      refine E_iconst (x := 0) rfl (by decide) ?_
      exact E_iret rfl rfl
    refine E_callS (v := some (.int 0)) (As := [.int a4]) (r0 := [.int 40, .int a2, .int 2, .ref 0]) (cs2 := w0) rfl rfl rfl (Nat.le_of_ble_eq_true rfl) rfl e19 (by decide) rfl ?_
    refine E_if (t := 24) (b := false) rfl rfl (by decide) ?_
    refine E_iconst (x := 1) rfl (by decide) ?_
    refine E_goto (t := 25) rfl rfl ?_
    have e32 : Ev ab_Z0 3 120 [.ref 0, .int 2, .int a2, .int 40, .int 1] w0 (some (.int 3), w0) := by
      refine Ef.in (md := mX5_whyNoTwos) (L := [some (.ref 0), some (.int 2), some (.int a2), some (.int 40), some (.int 1), none]) rfl (Nat.le_of_ble_eq_true rfl) rfl ?_
      refine E_aload_n rfl rfl ?_
      refine E_iload_n rfl rfl ?_
      refine E_callV (v := some (.int 3)) (As := [.ref 0, .int 2]) (r0 := []) (cs2 := w0) rfl rfl rfl (Nat.le_of_ble_eq_true rfl) rfl rfl c40_X5_whyNoRow (by decide) rfl ?_
      refine E_istore (L2 := [some (.ref 0), some (.int 2), some (.int a2), some (.int 40), some (.int 1), some (.int 3)]) rfl rfl ?_
      refine E_iload rfl rfl ?_
      refine E_if (t := 15) (b := false) rfl rfl (by decide) ?_
      refine E_iload rfl rfl ?_
      exact E_iret rfl rfl
    refine E_callV (v := some (.int 3)) (As := [.ref 0, .int 2, .int a2, .int 40, .int 1]) (r0 := []) (cs2 := w0) rfl rfl rfl (Nat.le_of_ble_eq_true rfl) rfl rfl e32 (by decide) rfl ?_
    refine E_goto (t := 32) rfl rfl ?_
    refine E_istore (L2 := [some (.ref 0), some (.int 2), some (.int a2), some (.int a3), some (.int a4), some (.int 3), none, none, none]) rfl rfl ?_
    refine E_iload rfl rfl ?_
    refine E_if (t := 56) (b := true) rfl rfl (by decide) ?_
    refine E_iload rfl rfl ?_
    refine E_if (t := 71) (b := false) rfl rfl (by decide) ?_
    refine E_aload_n rfl rfl ?_
    refine E_iload rfl rfl ?_
    refine E_callV (v := some (.int (-3))) (As := [.ref 0, .int 3]) (r0 := []) (cs2 := (w0.set 48 (.inl [0, 0, 0, 1, 0, 0, 0, 0]))) rfl rfl rfl (Nat.le_of_ble_eq_true rfl) rfl rfl c32_X5_refuse (by decide) (by simp only [List.length_set]) ?_
    refine E_bipush (x := 10) rfl (by decide) ?_
    refine E_isub (z := (-13)) rfl (by decide) ?_
    exact E_iret rfl rfl, by
    refine Ef.in (md := mX6_costs) (L := [some (.ref 65), some (.int 2), some (.int a2), some (.int a3), some (.int a4), none, none, none, none, none, none, none]) rfl (Nat.le_of_ble_eq_true rfl) rfl ?_
    refine E_aload_n rfl rfl ?_
    refine E_iload_n rfl rfl ?_
    refine E_iconst (x := 0) rfl (by decide) ?_
    refine E_bipush (x := 7) rfl (by decide) ?_
    have e5 : Ev ab_Z0 1 134 [.ref 65, .int a3, .int 0, .int 7] (w0.set 48 (.inl [0, 0, 0, 1, 0, 0, 0, 0])) (some (.int 1), (w0.set 48 (.inl [0, 0, 0, 1, 0, 0, 0, 0]))) := by
      refine Ef.in (md := mX6_isFrom) (L := [some (.ref 65), some (.int a3), some (.int 0), some (.int 7)]) rfl (Nat.le_of_ble_eq_true rfl) rfl ?_
      refine E_iload_n rfl rfl ?_
      refine E_iload_n rfl rfl ?_
      refine E_ic (t := 14) (b := false) rfl rfl ((cn_lt (rfl : (a3).toInt = (a3).toInt) (by decide : (0 : Int32).toInt = 0)).trans (decide_eq_false (by omega))) ?_
      refine E_iload_n rfl rfl ?_
      refine E_iload_n rfl rfl ?_
      refine E_ic (t := 14) (b := false) rfl rfl ((cn_gt (rfl : (a3).toInt = (a3).toInt) (by decide : (7 : Int32).toInt = 7)).trans (decide_eq_false (by omega))) ?_
      refine E_iconst (x := 1) rfl (by decide) ?_
      refine E_goto (t := 15) rfl rfl ?_
      exact E_iret rfl rfl
    refine E_callV (v := some (.int 1)) (As := [.ref 65, .int a3, .int 0, .int 7]) (r0 := []) (cs2 := (w0.set 48 (.inl [0, 0, 0, 1, 0, 0, 0, 0]))) rfl rfl rfl (Nat.le_of_ble_eq_true rfl) rfl rfl e5 (by decide) rfl ?_
    refine E_if (t := 15) (b := true) rfl rfl (by decide) ?_
    refine E_aload_n rfl rfl ?_
    refine E_iload_n rfl rfl ?_
    refine E_iload_n rfl rfl ?_
    refine E_bipush (x := 40) rfl (by decide) ?_
    refine E_iload rfl rfl ?_
    refine E_if (t := 31) (b := false) rfl rfl ((cn_eq (rfl : (a4).toInt = (a4).toInt) (by decide : (0 : Int32).toInt = 0)).trans (decide_eq_false (by omega))) ?_
    refine E_iload rfl rfl ?_
    refine E_iconst (x := 1) rfl (by decide) ?_
    refine E_ic (t := 35) (b := true) rfl rfl ((cn_ne (rfl : (a4).toInt = (a4).toInt) (by decide : (1 : Int32).toInt = 1)).trans (decide_eq_true (by omega))) ?_
    refine E_iconst (x := 0) rfl (by decide) ?_
    have e28 : Ev ab_Z0 3 186 [.ref 65, .int 2, .int a2, .int 40, .int 0] (w0.set 48 (.inl [0, 0, 0, 1, 0, 0, 0, 0])) (some (.int (-3)), (w0.set 48 (.inl [0, 0, 0, 1, 0, 0, 0, 0]))) := by
      refine Ef.in (md := mX6_barsOf) (L := [some (.ref 65), some (.int 2), some (.int a2), some (.int 40), some (.int 0), none]) rfl (Nat.le_of_ble_eq_true rfl) rfl ?_
      refine E_aload_n rfl rfl ?_
      refine E_iload_n rfl rfl ?_
      refine E_callV (v := some (.int (-3))) (As := [.ref 65, .int 2]) (r0 := []) (cs2 := (w0.set 48 (.inl [0, 0, 0, 1, 0, 0, 0, 0]))) rfl rfl rfl (Nat.le_of_ble_eq_true rfl) rfl rfl c211_X6_wanted (by decide) rfl ?_
      refine E_istore (L2 := [some (.ref 65), some (.int 2), some (.int a2), some (.int 40), some (.int 0), some (.int (-3))]) rfl rfl ?_
      refine E_iload rfl rfl ?_
      refine E_if (t := 17) (b := false) rfl rfl (by decide) ?_
      refine E_iload rfl rfl ?_
      refine E_goto (t := 59) rfl rfl ?_
      exact E_iret rfl rfl
    refine E_callV (v := some (.int (-3))) (As := [.ref 65, .int 2, .int a2, .int 40, .int 0]) (r0 := []) (cs2 := (w0.set 48 (.inl [0, 0, 0, 1, 0, 0, 0, 0]))) rfl rfl rfl (Nat.le_of_ble_eq_true rfl) rfl rfl e28 (by decide) rfl ?_
    refine E_istore (L2 := [some (.ref 65), some (.int 2), some (.int a2), some (.int a3), some (.int a4), some (.int (-3)), none, none, none, none, none, none]) rfl rfl ?_
    refine E_iconst (x := 0) rfl (by decide) ?_
    refine E_istore (L2 := [some (.ref 65), some (.int 2), some (.int a2), some (.int a3), some (.int a4), some (.int (-3)), some (.int 0), none, none, none, none, none]) rfl rfl ?_
    refine E_iload rfl rfl ?_
    refine E_iload_n rfl rfl ?_
    refine E_ic (t := 80) (b := false) rfl rfl ((cn_ge (by decide : (0 : Int32).toInt = 0) (rfl : (a2).toInt = (a2).toInt)).trans (decide_eq_false (by omega))) ?_
    refine E_iload rfl rfl ?_
    refine E_if (t := 80) (b := true) rfl rfl (by decide) ?_
    refine E_iload rfl rfl ?_
    refine E_if (t := 92) (b := false) rfl rfl (by decide) ?_
    refine E_aload_n rfl rfl ?_
    refine E_iload rfl rfl ?_
    refine E_callV (v := some (.int (-13))) (As := [.ref 65, .int (-3)]) (r0 := []) (cs2 := ((w0.set 48 (.inl [0, 0, 0, 1, 0, 0, 0, 0])).set 66 (.inl [0, 0, 0, 1, 0, 0, 0, 0]))) rfl rfl rfl (Nat.le_of_ble_eq_true rfl) rfl rfl c258_X6_noTen (by decide) (by simp only [List.length_set]) ?_
    exact E_iret rfl rfl, (by simp only [List.length_set]; rfl), (by simp only [List.length_set]; rfl), ((ab_szs rfl).trans ((ab_szs rfl).trans rfl)), fun _ => rfl⟩
theorem f_costs_11 (a2 a3 a4 : Int32) (ha2h : a2.toInt ≤ 0) (ha3l : (0 : Int) ≤ a3.toInt) (ha3h : a3.toInt ≤ 7) (ha4h : a4.toInt ≤ -1) : p1_P 6 100 4 188 [.ref 0, .int 3, .int a2, .int a3, .int a4] [.ref 65, .int 3, .int a2, .int a3, .int a4] :=
  ⟨(-13), (w0.set 48 (.inl [0, 0, 0, 1, 0, 0, 0, 0])), ((w0.set 48 (.inl [0, 0, 0, 1, 0, 0, 0, 0])).set 66 (.inl [0, 0, 0, 1, 0, 0, 0, 0])), by
    refine Ef.in (md := mX5_costs) (L := [some (.ref 0), some (.int 3), some (.int a2), some (.int a3), some (.int a4), none, none, none, none]) rfl (Nat.le_of_ble_eq_true rfl) rfl ?_
    refine E_iload_n rfl rfl ?_
    have e2 : Ev ab_Z0 1 47 [.int a3] w0 (some (.int 1), w0) := by
      refine Ef.in (md := mX4_isWish) (L := [some (.int a3)]) rfl (Nat.le_of_ble_eq_true rfl) rfl ?_
      refine E_iload_n rfl rfl ?_
      refine E_if (t := 14) (b := false) rfl rfl ((cn_lt (rfl : (a3).toInt = (a3).toInt) (by decide : (0 : Int32).toInt = 0)).trans (decide_eq_false (by omega))) ?_
      refine E_iload_n rfl rfl ?_
      refine E_bipush (x := 8) rfl (by decide) ?_
      refine E_ic (t := 14) (b := false) rfl rfl ((cn_ge (rfl : (a3).toInt = (a3).toInt) (by decide : (8 : Int32).toInt = 8)).trans (decide_eq_false (by omega))) ?_
      refine E_iconst (x := 1) rfl (by decide) ?_
      refine E_goto (t := 15) rfl rfl ?_
      exact E_iret rfl rfl
    refine E_callS (v := some (.int 1)) (As := [.int a3]) (r0 := []) (cs2 := w0) rfl rfl rfl (Nat.le_of_ble_eq_true rfl) rfl e2 (by decide) rfl ?_
    refine E_if (t := 31) (b := false) rfl rfl (by decide) ?_
    refine E_aload_n rfl rfl ?_
    refine E_iload_n rfl rfl ?_
    refine E_iload_n rfl rfl ?_
    refine E_bipush (x := 40) rfl (by decide) ?_
    refine E_iload rfl rfl ?_
    have e19 : Ev ab_Z0 1 116 [.int a4] w0 (some (.int 0), w0) := by
      refine Ef.in (md := mX5_isOneOfTwo) (L := [some (.int a4)]) rfl (Nat.le_of_ble_eq_true rfl) rfl ?_
      refine E_iload_n rfl rfl ?_
      refine E_if (t := 9) (b := false) rfl rfl ((cn_eq (rfl : (a4).toInt = (a4).toInt) (by decide : (0 : Int32).toInt = 0)).trans (decide_eq_false (by omega))) ?_
      refine E_iload_n rfl rfl ?_
      refine E_iconst (x := 1) rfl (by decide) ?_
      refine E_ic (t := 13) (b := true) rfl rfl ((cn_ne (rfl : (a4).toInt = (a4).toInt) (by decide : (1 : Int32).toInt = 1)).trans (decide_eq_true (by omega))) ?_
      refine E_iconst (x := 0) rfl (by decide) ?_
      exact E_iret rfl rfl
    refine E_callS (v := some (.int 0)) (As := [.int a4]) (r0 := [.int 40, .int a2, .int 3, .ref 0]) (cs2 := w0) rfl rfl rfl (Nat.le_of_ble_eq_true rfl) rfl e19 (by decide) rfl ?_
    refine E_if (t := 24) (b := false) rfl rfl (by decide) ?_
    refine E_iconst (x := 1) rfl (by decide) ?_
    refine E_goto (t := 25) rfl rfl ?_
    have e32 : Ev ab_Z0 3 120 [.ref 0, .int 3, .int a2, .int 40, .int 1] w0 (some (.int 3), w0) := by
      refine Ef.in (md := mX5_whyNoTwos) (L := [some (.ref 0), some (.int 3), some (.int a2), some (.int 40), some (.int 1), none]) rfl (Nat.le_of_ble_eq_true rfl) rfl ?_
      refine E_aload_n rfl rfl ?_
      refine E_iload_n rfl rfl ?_
      refine E_callV (v := some (.int 3)) (As := [.ref 0, .int 3]) (r0 := []) (cs2 := w0) rfl rfl rfl (Nat.le_of_ble_eq_true rfl) rfl rfl c44_X5_whyNoRow (by decide) rfl ?_
      refine E_istore (L2 := [some (.ref 0), some (.int 3), some (.int a2), some (.int 40), some (.int 1), some (.int 3)]) rfl rfl ?_
      refine E_iload rfl rfl ?_
      refine E_if (t := 15) (b := false) rfl rfl (by decide) ?_
      refine E_iload rfl rfl ?_
      exact E_iret rfl rfl
    refine E_callV (v := some (.int 3)) (As := [.ref 0, .int 3, .int a2, .int 40, .int 1]) (r0 := []) (cs2 := w0) rfl rfl rfl (Nat.le_of_ble_eq_true rfl) rfl rfl e32 (by decide) rfl ?_
    refine E_goto (t := 32) rfl rfl ?_
    refine E_istore (L2 := [some (.ref 0), some (.int 3), some (.int a2), some (.int a3), some (.int a4), some (.int 3), none, none, none]) rfl rfl ?_
    refine E_iload rfl rfl ?_
    refine E_if (t := 56) (b := true) rfl rfl (by decide) ?_
    refine E_iload rfl rfl ?_
    refine E_if (t := 71) (b := false) rfl rfl (by decide) ?_
    refine E_aload_n rfl rfl ?_
    refine E_iload rfl rfl ?_
    refine E_callV (v := some (.int (-3))) (As := [.ref 0, .int 3]) (r0 := []) (cs2 := (w0.set 48 (.inl [0, 0, 0, 1, 0, 0, 0, 0]))) rfl rfl rfl (Nat.le_of_ble_eq_true rfl) rfl rfl c32_X5_refuse (by decide) (by simp only [List.length_set]) ?_
    refine E_bipush (x := 10) rfl (by decide) ?_
    refine E_isub (z := (-13)) rfl (by decide) ?_
    exact E_iret rfl rfl, by
    refine Ef.in (md := mX6_costs) (L := [some (.ref 65), some (.int 3), some (.int a2), some (.int a3), some (.int a4), none, none, none, none, none, none, none]) rfl (Nat.le_of_ble_eq_true rfl) rfl ?_
    refine E_aload_n rfl rfl ?_
    refine E_iload_n rfl rfl ?_
    refine E_iconst (x := 0) rfl (by decide) ?_
    refine E_bipush (x := 7) rfl (by decide) ?_
    have e5 : Ev ab_Z0 1 134 [.ref 65, .int a3, .int 0, .int 7] (w0.set 48 (.inl [0, 0, 0, 1, 0, 0, 0, 0])) (some (.int 1), (w0.set 48 (.inl [0, 0, 0, 1, 0, 0, 0, 0]))) := by
      refine Ef.in (md := mX6_isFrom) (L := [some (.ref 65), some (.int a3), some (.int 0), some (.int 7)]) rfl (Nat.le_of_ble_eq_true rfl) rfl ?_
      refine E_iload_n rfl rfl ?_
      refine E_iload_n rfl rfl ?_
      refine E_ic (t := 14) (b := false) rfl rfl ((cn_lt (rfl : (a3).toInt = (a3).toInt) (by decide : (0 : Int32).toInt = 0)).trans (decide_eq_false (by omega))) ?_
      refine E_iload_n rfl rfl ?_
      refine E_iload_n rfl rfl ?_
      refine E_ic (t := 14) (b := false) rfl rfl ((cn_gt (rfl : (a3).toInt = (a3).toInt) (by decide : (7 : Int32).toInt = 7)).trans (decide_eq_false (by omega))) ?_
      refine E_iconst (x := 1) rfl (by decide) ?_
      refine E_goto (t := 15) rfl rfl ?_
      exact E_iret rfl rfl
    refine E_callV (v := some (.int 1)) (As := [.ref 65, .int a3, .int 0, .int 7]) (r0 := []) (cs2 := (w0.set 48 (.inl [0, 0, 0, 1, 0, 0, 0, 0]))) rfl rfl rfl (Nat.le_of_ble_eq_true rfl) rfl rfl e5 (by decide) rfl ?_
    refine E_if (t := 15) (b := true) rfl rfl (by decide) ?_
    refine E_aload_n rfl rfl ?_
    refine E_iload_n rfl rfl ?_
    refine E_iload_n rfl rfl ?_
    refine E_bipush (x := 40) rfl (by decide) ?_
    refine E_iload rfl rfl ?_
    refine E_if (t := 31) (b := false) rfl rfl ((cn_eq (rfl : (a4).toInt = (a4).toInt) (by decide : (0 : Int32).toInt = 0)).trans (decide_eq_false (by omega))) ?_
    refine E_iload rfl rfl ?_
    refine E_iconst (x := 1) rfl (by decide) ?_
    refine E_ic (t := 35) (b := true) rfl rfl ((cn_ne (rfl : (a4).toInt = (a4).toInt) (by decide : (1 : Int32).toInt = 1)).trans (decide_eq_true (by omega))) ?_
    refine E_iconst (x := 0) rfl (by decide) ?_
    have e28 : Ev ab_Z0 3 186 [.ref 65, .int 3, .int a2, .int 40, .int 0] (w0.set 48 (.inl [0, 0, 0, 1, 0, 0, 0, 0])) (some (.int (-3)), (w0.set 48 (.inl [0, 0, 0, 1, 0, 0, 0, 0]))) := by
      refine Ef.in (md := mX6_barsOf) (L := [some (.ref 65), some (.int 3), some (.int a2), some (.int 40), some (.int 0), none]) rfl (Nat.le_of_ble_eq_true rfl) rfl ?_
      refine E_aload_n rfl rfl ?_
      refine E_iload_n rfl rfl ?_
      refine E_callV (v := some (.int (-3))) (As := [.ref 65, .int 3]) (r0 := []) (cs2 := (w0.set 48 (.inl [0, 0, 0, 1, 0, 0, 0, 0]))) rfl rfl rfl (Nat.le_of_ble_eq_true rfl) rfl rfl c214_X6_wanted (by decide) rfl ?_
      refine E_istore (L2 := [some (.ref 65), some (.int 3), some (.int a2), some (.int 40), some (.int 0), some (.int (-3))]) rfl rfl ?_
      refine E_iload rfl rfl ?_
      refine E_if (t := 17) (b := false) rfl rfl (by decide) ?_
      refine E_iload rfl rfl ?_
      refine E_goto (t := 59) rfl rfl ?_
      exact E_iret rfl rfl
    refine E_callV (v := some (.int (-3))) (As := [.ref 65, .int 3, .int a2, .int 40, .int 0]) (r0 := []) (cs2 := (w0.set 48 (.inl [0, 0, 0, 1, 0, 0, 0, 0]))) rfl rfl rfl (Nat.le_of_ble_eq_true rfl) rfl rfl e28 (by decide) rfl ?_
    refine E_istore (L2 := [some (.ref 65), some (.int 3), some (.int a2), some (.int a3), some (.int a4), some (.int (-3)), none, none, none, none, none, none]) rfl rfl ?_
    refine E_iconst (x := 0) rfl (by decide) ?_
    refine E_istore (L2 := [some (.ref 65), some (.int 3), some (.int a2), some (.int a3), some (.int a4), some (.int (-3)), some (.int 0), none, none, none, none, none]) rfl rfl ?_
    refine E_iload rfl rfl ?_
    refine E_iload_n rfl rfl ?_
    refine E_ic (t := 80) (b := true) rfl rfl ((cn_ge (by decide : (0 : Int32).toInt = 0) (rfl : (a2).toInt = (a2).toInt)).trans (decide_eq_true (by omega))) ?_
    refine E_iload rfl rfl ?_
    refine E_if (t := 92) (b := false) rfl rfl (by decide) ?_
    refine E_aload_n rfl rfl ?_
    refine E_iload rfl rfl ?_
    refine E_callV (v := some (.int (-13))) (As := [.ref 65, .int (-3)]) (r0 := []) (cs2 := ((w0.set 48 (.inl [0, 0, 0, 1, 0, 0, 0, 0])).set 66 (.inl [0, 0, 0, 1, 0, 0, 0, 0]))) rfl rfl rfl (Nat.le_of_ble_eq_true rfl) rfl rfl c258_X6_noTen (by decide) (by simp only [List.length_set]) ?_
    exact E_iret rfl rfl, (by simp only [List.length_set]; rfl), (by simp only [List.length_set]; rfl), ((ab_szs rfl).trans ((ab_szs rfl).trans rfl)), fun _ => rfl⟩
theorem f_costs_12 (a2 a3 a4 : Int32) (ha2l : (1 : Int) ≤ a2.toInt) (ha3l : (0 : Int) ≤ a3.toInt) (ha3h : a3.toInt ≤ 7) (ha4h : a4.toInt ≤ -1) : p1_P 6 100 4 188 [.ref 0, .int 3, .int a2, .int a3, .int a4] [.ref 65, .int 3, .int a2, .int a3, .int a4] :=
  ⟨(-13), (w0.set 48 (.inl [0, 0, 0, 1, 0, 0, 0, 0])), ((w0.set 48 (.inl [0, 0, 0, 1, 0, 0, 0, 0])).set 66 (.inl [0, 0, 0, 1, 0, 0, 0, 0])), by
    refine Ef.in (md := mX5_costs) (L := [some (.ref 0), some (.int 3), some (.int a2), some (.int a3), some (.int a4), none, none, none, none]) rfl (Nat.le_of_ble_eq_true rfl) rfl ?_
    refine E_iload_n rfl rfl ?_
    have e2 : Ev ab_Z0 1 47 [.int a3] w0 (some (.int 1), w0) := by
      refine Ef.in (md := mX4_isWish) (L := [some (.int a3)]) rfl (Nat.le_of_ble_eq_true rfl) rfl ?_
      refine E_iload_n rfl rfl ?_
      refine E_if (t := 14) (b := false) rfl rfl ((cn_lt (rfl : (a3).toInt = (a3).toInt) (by decide : (0 : Int32).toInt = 0)).trans (decide_eq_false (by omega))) ?_
      refine E_iload_n rfl rfl ?_
      refine E_bipush (x := 8) rfl (by decide) ?_
      refine E_ic (t := 14) (b := false) rfl rfl ((cn_ge (rfl : (a3).toInt = (a3).toInt) (by decide : (8 : Int32).toInt = 8)).trans (decide_eq_false (by omega))) ?_
      refine E_iconst (x := 1) rfl (by decide) ?_
      refine E_goto (t := 15) rfl rfl ?_
      exact E_iret rfl rfl
    refine E_callS (v := some (.int 1)) (As := [.int a3]) (r0 := []) (cs2 := w0) rfl rfl rfl (Nat.le_of_ble_eq_true rfl) rfl e2 (by decide) rfl ?_
    refine E_if (t := 31) (b := false) rfl rfl (by decide) ?_
    refine E_aload_n rfl rfl ?_
    refine E_iload_n rfl rfl ?_
    refine E_iload_n rfl rfl ?_
    refine E_bipush (x := 40) rfl (by decide) ?_
    refine E_iload rfl rfl ?_
    have e19 : Ev ab_Z0 1 116 [.int a4] w0 (some (.int 0), w0) := by
      refine Ef.in (md := mX5_isOneOfTwo) (L := [some (.int a4)]) rfl (Nat.le_of_ble_eq_true rfl) rfl ?_
      refine E_iload_n rfl rfl ?_
      refine E_if (t := 9) (b := false) rfl rfl ((cn_eq (rfl : (a4).toInt = (a4).toInt) (by decide : (0 : Int32).toInt = 0)).trans (decide_eq_false (by omega))) ?_
      refine E_iload_n rfl rfl ?_
      refine E_iconst (x := 1) rfl (by decide) ?_
      refine E_ic (t := 13) (b := true) rfl rfl ((cn_ne (rfl : (a4).toInt = (a4).toInt) (by decide : (1 : Int32).toInt = 1)).trans (decide_eq_true (by omega))) ?_
      refine E_iconst (x := 0) rfl (by decide) ?_
      exact E_iret rfl rfl
    refine E_callS (v := some (.int 0)) (As := [.int a4]) (r0 := [.int 40, .int a2, .int 3, .ref 0]) (cs2 := w0) rfl rfl rfl (Nat.le_of_ble_eq_true rfl) rfl e19 (by decide) rfl ?_
    refine E_if (t := 24) (b := false) rfl rfl (by decide) ?_
    refine E_iconst (x := 1) rfl (by decide) ?_
    refine E_goto (t := 25) rfl rfl ?_
    have e32 : Ev ab_Z0 3 120 [.ref 0, .int 3, .int a2, .int 40, .int 1] w0 (some (.int 3), w0) := by
      refine Ef.in (md := mX5_whyNoTwos) (L := [some (.ref 0), some (.int 3), some (.int a2), some (.int 40), some (.int 1), none]) rfl (Nat.le_of_ble_eq_true rfl) rfl ?_
      refine E_aload_n rfl rfl ?_
      refine E_iload_n rfl rfl ?_
      refine E_callV (v := some (.int 3)) (As := [.ref 0, .int 3]) (r0 := []) (cs2 := w0) rfl rfl rfl (Nat.le_of_ble_eq_true rfl) rfl rfl c44_X5_whyNoRow (by decide) rfl ?_
      refine E_istore (L2 := [some (.ref 0), some (.int 3), some (.int a2), some (.int 40), some (.int 1), some (.int 3)]) rfl rfl ?_
      refine E_iload rfl rfl ?_
      refine E_if (t := 15) (b := false) rfl rfl (by decide) ?_
      refine E_iload rfl rfl ?_
      exact E_iret rfl rfl
    refine E_callV (v := some (.int 3)) (As := [.ref 0, .int 3, .int a2, .int 40, .int 1]) (r0 := []) (cs2 := w0) rfl rfl rfl (Nat.le_of_ble_eq_true rfl) rfl rfl e32 (by decide) rfl ?_
    refine E_goto (t := 32) rfl rfl ?_
    refine E_istore (L2 := [some (.ref 0), some (.int 3), some (.int a2), some (.int a3), some (.int a4), some (.int 3), none, none, none]) rfl rfl ?_
    refine E_iload rfl rfl ?_
    refine E_if (t := 56) (b := true) rfl rfl (by decide) ?_
    refine E_iload rfl rfl ?_
    refine E_if (t := 71) (b := false) rfl rfl (by decide) ?_
    refine E_aload_n rfl rfl ?_
    refine E_iload rfl rfl ?_
    refine E_callV (v := some (.int (-3))) (As := [.ref 0, .int 3]) (r0 := []) (cs2 := (w0.set 48 (.inl [0, 0, 0, 1, 0, 0, 0, 0]))) rfl rfl rfl (Nat.le_of_ble_eq_true rfl) rfl rfl c32_X5_refuse (by decide) (by simp only [List.length_set]) ?_
    refine E_bipush (x := 10) rfl (by decide) ?_
    refine E_isub (z := (-13)) rfl (by decide) ?_
    exact E_iret rfl rfl, by
    refine Ef.in (md := mX6_costs) (L := [some (.ref 65), some (.int 3), some (.int a2), some (.int a3), some (.int a4), none, none, none, none, none, none, none]) rfl (Nat.le_of_ble_eq_true rfl) rfl ?_
    refine E_aload_n rfl rfl ?_
    refine E_iload_n rfl rfl ?_
    refine E_iconst (x := 0) rfl (by decide) ?_
    refine E_bipush (x := 7) rfl (by decide) ?_
    have e5 : Ev ab_Z0 1 134 [.ref 65, .int a3, .int 0, .int 7] (w0.set 48 (.inl [0, 0, 0, 1, 0, 0, 0, 0])) (some (.int 1), (w0.set 48 (.inl [0, 0, 0, 1, 0, 0, 0, 0]))) := by
      refine Ef.in (md := mX6_isFrom) (L := [some (.ref 65), some (.int a3), some (.int 0), some (.int 7)]) rfl (Nat.le_of_ble_eq_true rfl) rfl ?_
      refine E_iload_n rfl rfl ?_
      refine E_iload_n rfl rfl ?_
      refine E_ic (t := 14) (b := false) rfl rfl ((cn_lt (rfl : (a3).toInt = (a3).toInt) (by decide : (0 : Int32).toInt = 0)).trans (decide_eq_false (by omega))) ?_
      refine E_iload_n rfl rfl ?_
      refine E_iload_n rfl rfl ?_
      refine E_ic (t := 14) (b := false) rfl rfl ((cn_gt (rfl : (a3).toInt = (a3).toInt) (by decide : (7 : Int32).toInt = 7)).trans (decide_eq_false (by omega))) ?_
      refine E_iconst (x := 1) rfl (by decide) ?_
      refine E_goto (t := 15) rfl rfl ?_
      exact E_iret rfl rfl
    refine E_callV (v := some (.int 1)) (As := [.ref 65, .int a3, .int 0, .int 7]) (r0 := []) (cs2 := (w0.set 48 (.inl [0, 0, 0, 1, 0, 0, 0, 0]))) rfl rfl rfl (Nat.le_of_ble_eq_true rfl) rfl rfl e5 (by decide) rfl ?_
    refine E_if (t := 15) (b := true) rfl rfl (by decide) ?_
    refine E_aload_n rfl rfl ?_
    refine E_iload_n rfl rfl ?_
    refine E_iload_n rfl rfl ?_
    refine E_bipush (x := 40) rfl (by decide) ?_
    refine E_iload rfl rfl ?_
    refine E_if (t := 31) (b := false) rfl rfl ((cn_eq (rfl : (a4).toInt = (a4).toInt) (by decide : (0 : Int32).toInt = 0)).trans (decide_eq_false (by omega))) ?_
    refine E_iload rfl rfl ?_
    refine E_iconst (x := 1) rfl (by decide) ?_
    refine E_ic (t := 35) (b := true) rfl rfl ((cn_ne (rfl : (a4).toInt = (a4).toInt) (by decide : (1 : Int32).toInt = 1)).trans (decide_eq_true (by omega))) ?_
    refine E_iconst (x := 0) rfl (by decide) ?_
    have e28 : Ev ab_Z0 3 186 [.ref 65, .int 3, .int a2, .int 40, .int 0] (w0.set 48 (.inl [0, 0, 0, 1, 0, 0, 0, 0])) (some (.int (-3)), (w0.set 48 (.inl [0, 0, 0, 1, 0, 0, 0, 0]))) := by
      refine Ef.in (md := mX6_barsOf) (L := [some (.ref 65), some (.int 3), some (.int a2), some (.int 40), some (.int 0), none]) rfl (Nat.le_of_ble_eq_true rfl) rfl ?_
      refine E_aload_n rfl rfl ?_
      refine E_iload_n rfl rfl ?_
      refine E_callV (v := some (.int (-3))) (As := [.ref 65, .int 3]) (r0 := []) (cs2 := (w0.set 48 (.inl [0, 0, 0, 1, 0, 0, 0, 0]))) rfl rfl rfl (Nat.le_of_ble_eq_true rfl) rfl rfl c214_X6_wanted (by decide) rfl ?_
      refine E_istore (L2 := [some (.ref 65), some (.int 3), some (.int a2), some (.int 40), some (.int 0), some (.int (-3))]) rfl rfl ?_
      refine E_iload rfl rfl ?_
      refine E_if (t := 17) (b := false) rfl rfl (by decide) ?_
      refine E_iload rfl rfl ?_
      refine E_goto (t := 59) rfl rfl ?_
      exact E_iret rfl rfl
    refine E_callV (v := some (.int (-3))) (As := [.ref 65, .int 3, .int a2, .int 40, .int 0]) (r0 := []) (cs2 := (w0.set 48 (.inl [0, 0, 0, 1, 0, 0, 0, 0]))) rfl rfl rfl (Nat.le_of_ble_eq_true rfl) rfl rfl e28 (by decide) rfl ?_
    refine E_istore (L2 := [some (.ref 65), some (.int 3), some (.int a2), some (.int a3), some (.int a4), some (.int (-3)), none, none, none, none, none, none]) rfl rfl ?_
    refine E_iconst (x := 0) rfl (by decide) ?_
    refine E_istore (L2 := [some (.ref 65), some (.int 3), some (.int a2), some (.int a3), some (.int a4), some (.int (-3)), some (.int 0), none, none, none, none, none]) rfl rfl ?_
    refine E_iload rfl rfl ?_
    refine E_iload_n rfl rfl ?_
    refine E_ic (t := 80) (b := false) rfl rfl ((cn_ge (by decide : (0 : Int32).toInt = 0) (rfl : (a2).toInt = (a2).toInt)).trans (decide_eq_false (by omega))) ?_
    refine E_iload rfl rfl ?_
    refine E_if (t := 80) (b := true) rfl rfl (by decide) ?_
    refine E_iload rfl rfl ?_
    refine E_if (t := 92) (b := false) rfl rfl (by decide) ?_
    refine E_aload_n rfl rfl ?_
    refine E_iload rfl rfl ?_
    refine E_callV (v := some (.int (-13))) (As := [.ref 65, .int (-3)]) (r0 := []) (cs2 := ((w0.set 48 (.inl [0, 0, 0, 1, 0, 0, 0, 0])).set 66 (.inl [0, 0, 0, 1, 0, 0, 0, 0]))) rfl rfl rfl (Nat.le_of_ble_eq_true rfl) rfl rfl c258_X6_noTen (by decide) (by simp only [List.length_set]) ?_
    exact E_iret rfl rfl, (by simp only [List.length_set]; rfl), (by simp only [List.length_set]; rfl), ((ab_szs rfl).trans ((ab_szs rfl).trans rfl)), fun _ => rfl⟩
theorem f_costs_13 (a2 a3 a4 : Int32) (ha2h : a2.toInt ≤ 0) (ha3l : (0 : Int) ≤ a3.toInt) (ha3h : a3.toInt ≤ 7) (ha4h : a4.toInt ≤ -1) : p1_P 6 100 4 188 [.ref 0, .int 4, .int a2, .int a3, .int a4] [.ref 65, .int 4, .int a2, .int a3, .int a4] :=
  ⟨(-13), (w0.set 48 (.inl [0, 0, 0, 1, 0, 0, 0, 0])), ((w0.set 48 (.inl [0, 0, 0, 1, 0, 0, 0, 0])).set 66 (.inl [0, 0, 0, 1, 0, 0, 0, 0])), by
    refine Ef.in (md := mX5_costs) (L := [some (.ref 0), some (.int 4), some (.int a2), some (.int a3), some (.int a4), none, none, none, none]) rfl (Nat.le_of_ble_eq_true rfl) rfl ?_
    refine E_iload_n rfl rfl ?_
    have e2 : Ev ab_Z0 1 47 [.int a3] w0 (some (.int 1), w0) := by
      refine Ef.in (md := mX4_isWish) (L := [some (.int a3)]) rfl (Nat.le_of_ble_eq_true rfl) rfl ?_
      refine E_iload_n rfl rfl ?_
      refine E_if (t := 14) (b := false) rfl rfl ((cn_lt (rfl : (a3).toInt = (a3).toInt) (by decide : (0 : Int32).toInt = 0)).trans (decide_eq_false (by omega))) ?_
      refine E_iload_n rfl rfl ?_
      refine E_bipush (x := 8) rfl (by decide) ?_
      refine E_ic (t := 14) (b := false) rfl rfl ((cn_ge (rfl : (a3).toInt = (a3).toInt) (by decide : (8 : Int32).toInt = 8)).trans (decide_eq_false (by omega))) ?_
      refine E_iconst (x := 1) rfl (by decide) ?_
      refine E_goto (t := 15) rfl rfl ?_
      exact E_iret rfl rfl
    refine E_callS (v := some (.int 1)) (As := [.int a3]) (r0 := []) (cs2 := w0) rfl rfl rfl (Nat.le_of_ble_eq_true rfl) rfl e2 (by decide) rfl ?_
    refine E_if (t := 31) (b := false) rfl rfl (by decide) ?_
    refine E_aload_n rfl rfl ?_
    refine E_iload_n rfl rfl ?_
    refine E_iload_n rfl rfl ?_
    refine E_bipush (x := 40) rfl (by decide) ?_
    refine E_iload rfl rfl ?_
    have e19 : Ev ab_Z0 1 116 [.int a4] w0 (some (.int 0), w0) := by
      refine Ef.in (md := mX5_isOneOfTwo) (L := [some (.int a4)]) rfl (Nat.le_of_ble_eq_true rfl) rfl ?_
      refine E_iload_n rfl rfl ?_
      refine E_if (t := 9) (b := false) rfl rfl ((cn_eq (rfl : (a4).toInt = (a4).toInt) (by decide : (0 : Int32).toInt = 0)).trans (decide_eq_false (by omega))) ?_
      refine E_iload_n rfl rfl ?_
      refine E_iconst (x := 1) rfl (by decide) ?_
      refine E_ic (t := 13) (b := true) rfl rfl ((cn_ne (rfl : (a4).toInt = (a4).toInt) (by decide : (1 : Int32).toInt = 1)).trans (decide_eq_true (by omega))) ?_
      refine E_iconst (x := 0) rfl (by decide) ?_
      exact E_iret rfl rfl
    refine E_callS (v := some (.int 0)) (As := [.int a4]) (r0 := [.int 40, .int a2, .int 4, .ref 0]) (cs2 := w0) rfl rfl rfl (Nat.le_of_ble_eq_true rfl) rfl e19 (by decide) rfl ?_
    refine E_if (t := 24) (b := false) rfl rfl (by decide) ?_
    refine E_iconst (x := 1) rfl (by decide) ?_
    refine E_goto (t := 25) rfl rfl ?_
    have e32 : Ev ab_Z0 3 120 [.ref 0, .int 4, .int a2, .int 40, .int 1] w0 (some (.int 3), w0) := by
      refine Ef.in (md := mX5_whyNoTwos) (L := [some (.ref 0), some (.int 4), some (.int a2), some (.int 40), some (.int 1), none]) rfl (Nat.le_of_ble_eq_true rfl) rfl ?_
      refine E_aload_n rfl rfl ?_
      refine E_iload_n rfl rfl ?_
      refine E_callV (v := some (.int 3)) (As := [.ref 0, .int 4]) (r0 := []) (cs2 := w0) rfl rfl rfl (Nat.le_of_ble_eq_true rfl) rfl rfl c48_X5_whyNoRow (by decide) rfl ?_
      refine E_istore (L2 := [some (.ref 0), some (.int 4), some (.int a2), some (.int 40), some (.int 1), some (.int 3)]) rfl rfl ?_
      refine E_iload rfl rfl ?_
      refine E_if (t := 15) (b := false) rfl rfl (by decide) ?_
      refine E_iload rfl rfl ?_
      exact E_iret rfl rfl
    refine E_callV (v := some (.int 3)) (As := [.ref 0, .int 4, .int a2, .int 40, .int 1]) (r0 := []) (cs2 := w0) rfl rfl rfl (Nat.le_of_ble_eq_true rfl) rfl rfl e32 (by decide) rfl ?_
    refine E_goto (t := 32) rfl rfl ?_
    refine E_istore (L2 := [some (.ref 0), some (.int 4), some (.int a2), some (.int a3), some (.int a4), some (.int 3), none, none, none]) rfl rfl ?_
    refine E_iload rfl rfl ?_
    refine E_if (t := 56) (b := true) rfl rfl (by decide) ?_
    refine E_iload rfl rfl ?_
    refine E_if (t := 71) (b := false) rfl rfl (by decide) ?_
    refine E_aload_n rfl rfl ?_
    refine E_iload rfl rfl ?_
    refine E_callV (v := some (.int (-3))) (As := [.ref 0, .int 3]) (r0 := []) (cs2 := (w0.set 48 (.inl [0, 0, 0, 1, 0, 0, 0, 0]))) rfl rfl rfl (Nat.le_of_ble_eq_true rfl) rfl rfl c32_X5_refuse (by decide) (by simp only [List.length_set]) ?_
    refine E_bipush (x := 10) rfl (by decide) ?_
    refine E_isub (z := (-13)) rfl (by decide) ?_
    exact E_iret rfl rfl, by
    refine Ef.in (md := mX6_costs) (L := [some (.ref 65), some (.int 4), some (.int a2), some (.int a3), some (.int a4), none, none, none, none, none, none, none]) rfl (Nat.le_of_ble_eq_true rfl) rfl ?_
    refine E_aload_n rfl rfl ?_
    refine E_iload_n rfl rfl ?_
    refine E_iconst (x := 0) rfl (by decide) ?_
    refine E_bipush (x := 7) rfl (by decide) ?_
    have e5 : Ev ab_Z0 1 134 [.ref 65, .int a3, .int 0, .int 7] (w0.set 48 (.inl [0, 0, 0, 1, 0, 0, 0, 0])) (some (.int 1), (w0.set 48 (.inl [0, 0, 0, 1, 0, 0, 0, 0]))) := by
      refine Ef.in (md := mX6_isFrom) (L := [some (.ref 65), some (.int a3), some (.int 0), some (.int 7)]) rfl (Nat.le_of_ble_eq_true rfl) rfl ?_
      refine E_iload_n rfl rfl ?_
      refine E_iload_n rfl rfl ?_
      refine E_ic (t := 14) (b := false) rfl rfl ((cn_lt (rfl : (a3).toInt = (a3).toInt) (by decide : (0 : Int32).toInt = 0)).trans (decide_eq_false (by omega))) ?_
      refine E_iload_n rfl rfl ?_
      refine E_iload_n rfl rfl ?_
      refine E_ic (t := 14) (b := false) rfl rfl ((cn_gt (rfl : (a3).toInt = (a3).toInt) (by decide : (7 : Int32).toInt = 7)).trans (decide_eq_false (by omega))) ?_
      refine E_iconst (x := 1) rfl (by decide) ?_
      refine E_goto (t := 15) rfl rfl ?_
      exact E_iret rfl rfl
    refine E_callV (v := some (.int 1)) (As := [.ref 65, .int a3, .int 0, .int 7]) (r0 := []) (cs2 := (w0.set 48 (.inl [0, 0, 0, 1, 0, 0, 0, 0]))) rfl rfl rfl (Nat.le_of_ble_eq_true rfl) rfl rfl e5 (by decide) rfl ?_
    refine E_if (t := 15) (b := true) rfl rfl (by decide) ?_
    refine E_aload_n rfl rfl ?_
    refine E_iload_n rfl rfl ?_
    refine E_iload_n rfl rfl ?_
    refine E_bipush (x := 40) rfl (by decide) ?_
    refine E_iload rfl rfl ?_
    refine E_if (t := 31) (b := false) rfl rfl ((cn_eq (rfl : (a4).toInt = (a4).toInt) (by decide : (0 : Int32).toInt = 0)).trans (decide_eq_false (by omega))) ?_
    refine E_iload rfl rfl ?_
    refine E_iconst (x := 1) rfl (by decide) ?_
    refine E_ic (t := 35) (b := true) rfl rfl ((cn_ne (rfl : (a4).toInt = (a4).toInt) (by decide : (1 : Int32).toInt = 1)).trans (decide_eq_true (by omega))) ?_
    refine E_iconst (x := 0) rfl (by decide) ?_
    have e28 : Ev ab_Z0 3 186 [.ref 65, .int 4, .int a2, .int 40, .int 0] (w0.set 48 (.inl [0, 0, 0, 1, 0, 0, 0, 0])) (some (.int (-3)), (w0.set 48 (.inl [0, 0, 0, 1, 0, 0, 0, 0]))) := by
      refine Ef.in (md := mX6_barsOf) (L := [some (.ref 65), some (.int 4), some (.int a2), some (.int 40), some (.int 0), none]) rfl (Nat.le_of_ble_eq_true rfl) rfl ?_
      refine E_aload_n rfl rfl ?_
      refine E_iload_n rfl rfl ?_
      refine E_callV (v := some (.int (-3))) (As := [.ref 65, .int 4]) (r0 := []) (cs2 := (w0.set 48 (.inl [0, 0, 0, 1, 0, 0, 0, 0]))) rfl rfl rfl (Nat.le_of_ble_eq_true rfl) rfl rfl c217_X6_wanted (by decide) rfl ?_
      refine E_istore (L2 := [some (.ref 65), some (.int 4), some (.int a2), some (.int 40), some (.int 0), some (.int (-3))]) rfl rfl ?_
      refine E_iload rfl rfl ?_
      refine E_if (t := 17) (b := false) rfl rfl (by decide) ?_
      refine E_iload rfl rfl ?_
      refine E_goto (t := 59) rfl rfl ?_
      exact E_iret rfl rfl
    refine E_callV (v := some (.int (-3))) (As := [.ref 65, .int 4, .int a2, .int 40, .int 0]) (r0 := []) (cs2 := (w0.set 48 (.inl [0, 0, 0, 1, 0, 0, 0, 0]))) rfl rfl rfl (Nat.le_of_ble_eq_true rfl) rfl rfl e28 (by decide) rfl ?_
    refine E_istore (L2 := [some (.ref 65), some (.int 4), some (.int a2), some (.int a3), some (.int a4), some (.int (-3)), none, none, none, none, none, none]) rfl rfl ?_
    refine E_iconst (x := 0) rfl (by decide) ?_
    refine E_istore (L2 := [some (.ref 65), some (.int 4), some (.int a2), some (.int a3), some (.int a4), some (.int (-3)), some (.int 0), none, none, none, none, none]) rfl rfl ?_
    refine E_iload rfl rfl ?_
    refine E_iload_n rfl rfl ?_
    refine E_ic (t := 80) (b := true) rfl rfl ((cn_ge (by decide : (0 : Int32).toInt = 0) (rfl : (a2).toInt = (a2).toInt)).trans (decide_eq_true (by omega))) ?_
    refine E_iload rfl rfl ?_
    refine E_if (t := 92) (b := false) rfl rfl (by decide) ?_
    refine E_aload_n rfl rfl ?_
    refine E_iload rfl rfl ?_
    refine E_callV (v := some (.int (-13))) (As := [.ref 65, .int (-3)]) (r0 := []) (cs2 := ((w0.set 48 (.inl [0, 0, 0, 1, 0, 0, 0, 0])).set 66 (.inl [0, 0, 0, 1, 0, 0, 0, 0]))) rfl rfl rfl (Nat.le_of_ble_eq_true rfl) rfl rfl c258_X6_noTen (by decide) (by simp only [List.length_set]) ?_
    exact E_iret rfl rfl, (by simp only [List.length_set]; rfl), (by simp only [List.length_set]; rfl), ((ab_szs rfl).trans ((ab_szs rfl).trans rfl)), fun _ => rfl⟩
theorem f_costs_14 (a2 a3 a4 : Int32) (ha2l : (1 : Int) ≤ a2.toInt) (ha3l : (0 : Int) ≤ a3.toInt) (ha3h : a3.toInt ≤ 7) (ha4h : a4.toInt ≤ -1) : p1_P 6 100 4 188 [.ref 0, .int 4, .int a2, .int a3, .int a4] [.ref 65, .int 4, .int a2, .int a3, .int a4] :=
  ⟨(-13), (w0.set 48 (.inl [0, 0, 0, 1, 0, 0, 0, 0])), ((w0.set 48 (.inl [0, 0, 0, 1, 0, 0, 0, 0])).set 66 (.inl [0, 0, 0, 1, 0, 0, 0, 0])), by
    refine Ef.in (md := mX5_costs) (L := [some (.ref 0), some (.int 4), some (.int a2), some (.int a3), some (.int a4), none, none, none, none]) rfl (Nat.le_of_ble_eq_true rfl) rfl ?_
    refine E_iload_n rfl rfl ?_
    have e2 : Ev ab_Z0 1 47 [.int a3] w0 (some (.int 1), w0) := by
      refine Ef.in (md := mX4_isWish) (L := [some (.int a3)]) rfl (Nat.le_of_ble_eq_true rfl) rfl ?_
      refine E_iload_n rfl rfl ?_
      refine E_if (t := 14) (b := false) rfl rfl ((cn_lt (rfl : (a3).toInt = (a3).toInt) (by decide : (0 : Int32).toInt = 0)).trans (decide_eq_false (by omega))) ?_
      refine E_iload_n rfl rfl ?_
      refine E_bipush (x := 8) rfl (by decide) ?_
      refine E_ic (t := 14) (b := false) rfl rfl ((cn_ge (rfl : (a3).toInt = (a3).toInt) (by decide : (8 : Int32).toInt = 8)).trans (decide_eq_false (by omega))) ?_
      refine E_iconst (x := 1) rfl (by decide) ?_
      refine E_goto (t := 15) rfl rfl ?_
      exact E_iret rfl rfl
    refine E_callS (v := some (.int 1)) (As := [.int a3]) (r0 := []) (cs2 := w0) rfl rfl rfl (Nat.le_of_ble_eq_true rfl) rfl e2 (by decide) rfl ?_
    refine E_if (t := 31) (b := false) rfl rfl (by decide) ?_
    refine E_aload_n rfl rfl ?_
    refine E_iload_n rfl rfl ?_
    refine E_iload_n rfl rfl ?_
    refine E_bipush (x := 40) rfl (by decide) ?_
    refine E_iload rfl rfl ?_
    have e19 : Ev ab_Z0 1 116 [.int a4] w0 (some (.int 0), w0) := by
      refine Ef.in (md := mX5_isOneOfTwo) (L := [some (.int a4)]) rfl (Nat.le_of_ble_eq_true rfl) rfl ?_
      refine E_iload_n rfl rfl ?_
      refine E_if (t := 9) (b := false) rfl rfl ((cn_eq (rfl : (a4).toInt = (a4).toInt) (by decide : (0 : Int32).toInt = 0)).trans (decide_eq_false (by omega))) ?_
      refine E_iload_n rfl rfl ?_
      refine E_iconst (x := 1) rfl (by decide) ?_
      refine E_ic (t := 13) (b := true) rfl rfl ((cn_ne (rfl : (a4).toInt = (a4).toInt) (by decide : (1 : Int32).toInt = 1)).trans (decide_eq_true (by omega))) ?_
      refine E_iconst (x := 0) rfl (by decide) ?_
      exact E_iret rfl rfl
    refine E_callS (v := some (.int 0)) (As := [.int a4]) (r0 := [.int 40, .int a2, .int 4, .ref 0]) (cs2 := w0) rfl rfl rfl (Nat.le_of_ble_eq_true rfl) rfl e19 (by decide) rfl ?_
    refine E_if (t := 24) (b := false) rfl rfl (by decide) ?_
    refine E_iconst (x := 1) rfl (by decide) ?_
    refine E_goto (t := 25) rfl rfl ?_
    have e32 : Ev ab_Z0 3 120 [.ref 0, .int 4, .int a2, .int 40, .int 1] w0 (some (.int 3), w0) := by
      refine Ef.in (md := mX5_whyNoTwos) (L := [some (.ref 0), some (.int 4), some (.int a2), some (.int 40), some (.int 1), none]) rfl (Nat.le_of_ble_eq_true rfl) rfl ?_
      refine E_aload_n rfl rfl ?_
      refine E_iload_n rfl rfl ?_
      refine E_callV (v := some (.int 3)) (As := [.ref 0, .int 4]) (r0 := []) (cs2 := w0) rfl rfl rfl (Nat.le_of_ble_eq_true rfl) rfl rfl c48_X5_whyNoRow (by decide) rfl ?_
      refine E_istore (L2 := [some (.ref 0), some (.int 4), some (.int a2), some (.int 40), some (.int 1), some (.int 3)]) rfl rfl ?_
      refine E_iload rfl rfl ?_
      refine E_if (t := 15) (b := false) rfl rfl (by decide) ?_
      refine E_iload rfl rfl ?_
      exact E_iret rfl rfl
    refine E_callV (v := some (.int 3)) (As := [.ref 0, .int 4, .int a2, .int 40, .int 1]) (r0 := []) (cs2 := w0) rfl rfl rfl (Nat.le_of_ble_eq_true rfl) rfl rfl e32 (by decide) rfl ?_
    refine E_goto (t := 32) rfl rfl ?_
    refine E_istore (L2 := [some (.ref 0), some (.int 4), some (.int a2), some (.int a3), some (.int a4), some (.int 3), none, none, none]) rfl rfl ?_
    refine E_iload rfl rfl ?_
    refine E_if (t := 56) (b := true) rfl rfl (by decide) ?_
    refine E_iload rfl rfl ?_
    refine E_if (t := 71) (b := false) rfl rfl (by decide) ?_
    refine E_aload_n rfl rfl ?_
    refine E_iload rfl rfl ?_
    refine E_callV (v := some (.int (-3))) (As := [.ref 0, .int 3]) (r0 := []) (cs2 := (w0.set 48 (.inl [0, 0, 0, 1, 0, 0, 0, 0]))) rfl rfl rfl (Nat.le_of_ble_eq_true rfl) rfl rfl c32_X5_refuse (by decide) (by simp only [List.length_set]) ?_
    refine E_bipush (x := 10) rfl (by decide) ?_
    refine E_isub (z := (-13)) rfl (by decide) ?_
    exact E_iret rfl rfl, by
    refine Ef.in (md := mX6_costs) (L := [some (.ref 65), some (.int 4), some (.int a2), some (.int a3), some (.int a4), none, none, none, none, none, none, none]) rfl (Nat.le_of_ble_eq_true rfl) rfl ?_
    refine E_aload_n rfl rfl ?_
    refine E_iload_n rfl rfl ?_
    refine E_iconst (x := 0) rfl (by decide) ?_
    refine E_bipush (x := 7) rfl (by decide) ?_
    have e5 : Ev ab_Z0 1 134 [.ref 65, .int a3, .int 0, .int 7] (w0.set 48 (.inl [0, 0, 0, 1, 0, 0, 0, 0])) (some (.int 1), (w0.set 48 (.inl [0, 0, 0, 1, 0, 0, 0, 0]))) := by
      refine Ef.in (md := mX6_isFrom) (L := [some (.ref 65), some (.int a3), some (.int 0), some (.int 7)]) rfl (Nat.le_of_ble_eq_true rfl) rfl ?_
      refine E_iload_n rfl rfl ?_
      refine E_iload_n rfl rfl ?_
      refine E_ic (t := 14) (b := false) rfl rfl ((cn_lt (rfl : (a3).toInt = (a3).toInt) (by decide : (0 : Int32).toInt = 0)).trans (decide_eq_false (by omega))) ?_
      refine E_iload_n rfl rfl ?_
      refine E_iload_n rfl rfl ?_
      refine E_ic (t := 14) (b := false) rfl rfl ((cn_gt (rfl : (a3).toInt = (a3).toInt) (by decide : (7 : Int32).toInt = 7)).trans (decide_eq_false (by omega))) ?_
      refine E_iconst (x := 1) rfl (by decide) ?_
      refine E_goto (t := 15) rfl rfl ?_
      exact E_iret rfl rfl
    refine E_callV (v := some (.int 1)) (As := [.ref 65, .int a3, .int 0, .int 7]) (r0 := []) (cs2 := (w0.set 48 (.inl [0, 0, 0, 1, 0, 0, 0, 0]))) rfl rfl rfl (Nat.le_of_ble_eq_true rfl) rfl rfl e5 (by decide) rfl ?_
    refine E_if (t := 15) (b := true) rfl rfl (by decide) ?_
    refine E_aload_n rfl rfl ?_
    refine E_iload_n rfl rfl ?_
    refine E_iload_n rfl rfl ?_
    refine E_bipush (x := 40) rfl (by decide) ?_
    refine E_iload rfl rfl ?_
    refine E_if (t := 31) (b := false) rfl rfl ((cn_eq (rfl : (a4).toInt = (a4).toInt) (by decide : (0 : Int32).toInt = 0)).trans (decide_eq_false (by omega))) ?_
    refine E_iload rfl rfl ?_
    refine E_iconst (x := 1) rfl (by decide) ?_
    refine E_ic (t := 35) (b := true) rfl rfl ((cn_ne (rfl : (a4).toInt = (a4).toInt) (by decide : (1 : Int32).toInt = 1)).trans (decide_eq_true (by omega))) ?_
    refine E_iconst (x := 0) rfl (by decide) ?_
    have e28 : Ev ab_Z0 3 186 [.ref 65, .int 4, .int a2, .int 40, .int 0] (w0.set 48 (.inl [0, 0, 0, 1, 0, 0, 0, 0])) (some (.int (-3)), (w0.set 48 (.inl [0, 0, 0, 1, 0, 0, 0, 0]))) := by
      refine Ef.in (md := mX6_barsOf) (L := [some (.ref 65), some (.int 4), some (.int a2), some (.int 40), some (.int 0), none]) rfl (Nat.le_of_ble_eq_true rfl) rfl ?_
      refine E_aload_n rfl rfl ?_
      refine E_iload_n rfl rfl ?_
      refine E_callV (v := some (.int (-3))) (As := [.ref 65, .int 4]) (r0 := []) (cs2 := (w0.set 48 (.inl [0, 0, 0, 1, 0, 0, 0, 0]))) rfl rfl rfl (Nat.le_of_ble_eq_true rfl) rfl rfl c217_X6_wanted (by decide) rfl ?_
      refine E_istore (L2 := [some (.ref 65), some (.int 4), some (.int a2), some (.int 40), some (.int 0), some (.int (-3))]) rfl rfl ?_
      refine E_iload rfl rfl ?_
      refine E_if (t := 17) (b := false) rfl rfl (by decide) ?_
      refine E_iload rfl rfl ?_
      refine E_goto (t := 59) rfl rfl ?_
      exact E_iret rfl rfl
    refine E_callV (v := some (.int (-3))) (As := [.ref 65, .int 4, .int a2, .int 40, .int 0]) (r0 := []) (cs2 := (w0.set 48 (.inl [0, 0, 0, 1, 0, 0, 0, 0]))) rfl rfl rfl (Nat.le_of_ble_eq_true rfl) rfl rfl e28 (by decide) rfl ?_
    refine E_istore (L2 := [some (.ref 65), some (.int 4), some (.int a2), some (.int a3), some (.int a4), some (.int (-3)), none, none, none, none, none, none]) rfl rfl ?_
    refine E_iconst (x := 0) rfl (by decide) ?_
    refine E_istore (L2 := [some (.ref 65), some (.int 4), some (.int a2), some (.int a3), some (.int a4), some (.int (-3)), some (.int 0), none, none, none, none, none]) rfl rfl ?_
    refine E_iload rfl rfl ?_
    refine E_iload_n rfl rfl ?_
    refine E_ic (t := 80) (b := false) rfl rfl ((cn_ge (by decide : (0 : Int32).toInt = 0) (rfl : (a2).toInt = (a2).toInt)).trans (decide_eq_false (by omega))) ?_
    refine E_iload rfl rfl ?_
    refine E_if (t := 80) (b := true) rfl rfl (by decide) ?_
    refine E_iload rfl rfl ?_
    refine E_if (t := 92) (b := false) rfl rfl (by decide) ?_
    refine E_aload_n rfl rfl ?_
    refine E_iload rfl rfl ?_
    refine E_callV (v := some (.int (-13))) (As := [.ref 65, .int (-3)]) (r0 := []) (cs2 := ((w0.set 48 (.inl [0, 0, 0, 1, 0, 0, 0, 0])).set 66 (.inl [0, 0, 0, 1, 0, 0, 0, 0]))) rfl rfl rfl (Nat.le_of_ble_eq_true rfl) rfl rfl c258_X6_noTen (by decide) (by simp only [List.length_set]) ?_
    exact E_iret rfl rfl, (by simp only [List.length_set]; rfl), (by simp only [List.length_set]; rfl), ((ab_szs rfl).trans ((ab_szs rfl).trans rfl)), fun _ => rfl⟩
theorem f_costs_15 (a2 a3 a4 : Int32) (ha2h : a2.toInt ≤ 0) (ha3l : (0 : Int) ≤ a3.toInt) (ha3h : a3.toInt ≤ 7) (ha4h : a4.toInt ≤ -1) : p1_P 6 100 4 188 [.ref 0, .int 5, .int a2, .int a3, .int a4] [.ref 65, .int 5, .int a2, .int a3, .int a4] :=
  ⟨(-13), (w0.set 48 (.inl [0, 0, 0, 1, 0, 0, 0, 0])), ((w0.set 48 (.inl [0, 0, 0, 1, 0, 0, 0, 0])).set 66 (.inl [0, 0, 0, 1, 0, 0, 0, 0])), by
    refine Ef.in (md := mX5_costs) (L := [some (.ref 0), some (.int 5), some (.int a2), some (.int a3), some (.int a4), none, none, none, none]) rfl (Nat.le_of_ble_eq_true rfl) rfl ?_
    refine E_iload_n rfl rfl ?_
    have e2 : Ev ab_Z0 1 47 [.int a3] w0 (some (.int 1), w0) := by
      refine Ef.in (md := mX4_isWish) (L := [some (.int a3)]) rfl (Nat.le_of_ble_eq_true rfl) rfl ?_
      refine E_iload_n rfl rfl ?_
      refine E_if (t := 14) (b := false) rfl rfl ((cn_lt (rfl : (a3).toInt = (a3).toInt) (by decide : (0 : Int32).toInt = 0)).trans (decide_eq_false (by omega))) ?_
      refine E_iload_n rfl rfl ?_
      refine E_bipush (x := 8) rfl (by decide) ?_
      refine E_ic (t := 14) (b := false) rfl rfl ((cn_ge (rfl : (a3).toInt = (a3).toInt) (by decide : (8 : Int32).toInt = 8)).trans (decide_eq_false (by omega))) ?_
      refine E_iconst (x := 1) rfl (by decide) ?_
      refine E_goto (t := 15) rfl rfl ?_
      exact E_iret rfl rfl
    refine E_callS (v := some (.int 1)) (As := [.int a3]) (r0 := []) (cs2 := w0) rfl rfl rfl (Nat.le_of_ble_eq_true rfl) rfl e2 (by decide) rfl ?_
    refine E_if (t := 31) (b := false) rfl rfl (by decide) ?_
    refine E_aload_n rfl rfl ?_
    refine E_iload_n rfl rfl ?_
    refine E_iload_n rfl rfl ?_
    refine E_bipush (x := 40) rfl (by decide) ?_
    refine E_iload rfl rfl ?_
    have e19 : Ev ab_Z0 1 116 [.int a4] w0 (some (.int 0), w0) := by
      refine Ef.in (md := mX5_isOneOfTwo) (L := [some (.int a4)]) rfl (Nat.le_of_ble_eq_true rfl) rfl ?_
      refine E_iload_n rfl rfl ?_
      refine E_if (t := 9) (b := false) rfl rfl ((cn_eq (rfl : (a4).toInt = (a4).toInt) (by decide : (0 : Int32).toInt = 0)).trans (decide_eq_false (by omega))) ?_
      refine E_iload_n rfl rfl ?_
      refine E_iconst (x := 1) rfl (by decide) ?_
      refine E_ic (t := 13) (b := true) rfl rfl ((cn_ne (rfl : (a4).toInt = (a4).toInt) (by decide : (1 : Int32).toInt = 1)).trans (decide_eq_true (by omega))) ?_
      refine E_iconst (x := 0) rfl (by decide) ?_
      exact E_iret rfl rfl
    refine E_callS (v := some (.int 0)) (As := [.int a4]) (r0 := [.int 40, .int a2, .int 5, .ref 0]) (cs2 := w0) rfl rfl rfl (Nat.le_of_ble_eq_true rfl) rfl e19 (by decide) rfl ?_
    refine E_if (t := 24) (b := false) rfl rfl (by decide) ?_
    refine E_iconst (x := 1) rfl (by decide) ?_
    refine E_goto (t := 25) rfl rfl ?_
    have e32 : Ev ab_Z0 3 120 [.ref 0, .int 5, .int a2, .int 40, .int 1] w0 (some (.int 3), w0) := by
      refine Ef.in (md := mX5_whyNoTwos) (L := [some (.ref 0), some (.int 5), some (.int a2), some (.int 40), some (.int 1), none]) rfl (Nat.le_of_ble_eq_true rfl) rfl ?_
      refine E_aload_n rfl rfl ?_
      refine E_iload_n rfl rfl ?_
      refine E_callV (v := some (.int 3)) (As := [.ref 0, .int 5]) (r0 := []) (cs2 := w0) rfl rfl rfl (Nat.le_of_ble_eq_true rfl) rfl rfl c52_X5_whyNoRow (by decide) rfl ?_
      refine E_istore (L2 := [some (.ref 0), some (.int 5), some (.int a2), some (.int 40), some (.int 1), some (.int 3)]) rfl rfl ?_
      refine E_iload rfl rfl ?_
      refine E_if (t := 15) (b := false) rfl rfl (by decide) ?_
      refine E_iload rfl rfl ?_
      exact E_iret rfl rfl
    refine E_callV (v := some (.int 3)) (As := [.ref 0, .int 5, .int a2, .int 40, .int 1]) (r0 := []) (cs2 := w0) rfl rfl rfl (Nat.le_of_ble_eq_true rfl) rfl rfl e32 (by decide) rfl ?_
    refine E_goto (t := 32) rfl rfl ?_
    refine E_istore (L2 := [some (.ref 0), some (.int 5), some (.int a2), some (.int a3), some (.int a4), some (.int 3), none, none, none]) rfl rfl ?_
    refine E_iload rfl rfl ?_
    refine E_if (t := 56) (b := true) rfl rfl (by decide) ?_
    refine E_iload rfl rfl ?_
    refine E_if (t := 71) (b := false) rfl rfl (by decide) ?_
    refine E_aload_n rfl rfl ?_
    refine E_iload rfl rfl ?_
    refine E_callV (v := some (.int (-3))) (As := [.ref 0, .int 3]) (r0 := []) (cs2 := (w0.set 48 (.inl [0, 0, 0, 1, 0, 0, 0, 0]))) rfl rfl rfl (Nat.le_of_ble_eq_true rfl) rfl rfl c32_X5_refuse (by decide) (by simp only [List.length_set]) ?_
    refine E_bipush (x := 10) rfl (by decide) ?_
    refine E_isub (z := (-13)) rfl (by decide) ?_
    exact E_iret rfl rfl, by
    refine Ef.in (md := mX6_costs) (L := [some (.ref 65), some (.int 5), some (.int a2), some (.int a3), some (.int a4), none, none, none, none, none, none, none]) rfl (Nat.le_of_ble_eq_true rfl) rfl ?_
    refine E_aload_n rfl rfl ?_
    refine E_iload_n rfl rfl ?_
    refine E_iconst (x := 0) rfl (by decide) ?_
    refine E_bipush (x := 7) rfl (by decide) ?_
    have e5 : Ev ab_Z0 1 134 [.ref 65, .int a3, .int 0, .int 7] (w0.set 48 (.inl [0, 0, 0, 1, 0, 0, 0, 0])) (some (.int 1), (w0.set 48 (.inl [0, 0, 0, 1, 0, 0, 0, 0]))) := by
      refine Ef.in (md := mX6_isFrom) (L := [some (.ref 65), some (.int a3), some (.int 0), some (.int 7)]) rfl (Nat.le_of_ble_eq_true rfl) rfl ?_
      refine E_iload_n rfl rfl ?_
      refine E_iload_n rfl rfl ?_
      refine E_ic (t := 14) (b := false) rfl rfl ((cn_lt (rfl : (a3).toInt = (a3).toInt) (by decide : (0 : Int32).toInt = 0)).trans (decide_eq_false (by omega))) ?_
      refine E_iload_n rfl rfl ?_
      refine E_iload_n rfl rfl ?_
      refine E_ic (t := 14) (b := false) rfl rfl ((cn_gt (rfl : (a3).toInt = (a3).toInt) (by decide : (7 : Int32).toInt = 7)).trans (decide_eq_false (by omega))) ?_
      refine E_iconst (x := 1) rfl (by decide) ?_
      refine E_goto (t := 15) rfl rfl ?_
      exact E_iret rfl rfl
    refine E_callV (v := some (.int 1)) (As := [.ref 65, .int a3, .int 0, .int 7]) (r0 := []) (cs2 := (w0.set 48 (.inl [0, 0, 0, 1, 0, 0, 0, 0]))) rfl rfl rfl (Nat.le_of_ble_eq_true rfl) rfl rfl e5 (by decide) rfl ?_
    refine E_if (t := 15) (b := true) rfl rfl (by decide) ?_
    refine E_aload_n rfl rfl ?_
    refine E_iload_n rfl rfl ?_
    refine E_iload_n rfl rfl ?_
    refine E_bipush (x := 40) rfl (by decide) ?_
    refine E_iload rfl rfl ?_
    refine E_if (t := 31) (b := false) rfl rfl ((cn_eq (rfl : (a4).toInt = (a4).toInt) (by decide : (0 : Int32).toInt = 0)).trans (decide_eq_false (by omega))) ?_
    refine E_iload rfl rfl ?_
    refine E_iconst (x := 1) rfl (by decide) ?_
    refine E_ic (t := 35) (b := true) rfl rfl ((cn_ne (rfl : (a4).toInt = (a4).toInt) (by decide : (1 : Int32).toInt = 1)).trans (decide_eq_true (by omega))) ?_
    refine E_iconst (x := 0) rfl (by decide) ?_
    have e28 : Ev ab_Z0 3 186 [.ref 65, .int 5, .int a2, .int 40, .int 0] (w0.set 48 (.inl [0, 0, 0, 1, 0, 0, 0, 0])) (some (.int (-3)), (w0.set 48 (.inl [0, 0, 0, 1, 0, 0, 0, 0]))) := by
      refine Ef.in (md := mX6_barsOf) (L := [some (.ref 65), some (.int 5), some (.int a2), some (.int 40), some (.int 0), none]) rfl (Nat.le_of_ble_eq_true rfl) rfl ?_
      refine E_aload_n rfl rfl ?_
      refine E_iload_n rfl rfl ?_
      refine E_callV (v := some (.int (-3))) (As := [.ref 65, .int 5]) (r0 := []) (cs2 := (w0.set 48 (.inl [0, 0, 0, 1, 0, 0, 0, 0]))) rfl rfl rfl (Nat.le_of_ble_eq_true rfl) rfl rfl c220_X6_wanted (by decide) rfl ?_
      refine E_istore (L2 := [some (.ref 65), some (.int 5), some (.int a2), some (.int 40), some (.int 0), some (.int (-3))]) rfl rfl ?_
      refine E_iload rfl rfl ?_
      refine E_if (t := 17) (b := false) rfl rfl (by decide) ?_
      refine E_iload rfl rfl ?_
      refine E_goto (t := 59) rfl rfl ?_
      exact E_iret rfl rfl
    refine E_callV (v := some (.int (-3))) (As := [.ref 65, .int 5, .int a2, .int 40, .int 0]) (r0 := []) (cs2 := (w0.set 48 (.inl [0, 0, 0, 1, 0, 0, 0, 0]))) rfl rfl rfl (Nat.le_of_ble_eq_true rfl) rfl rfl e28 (by decide) rfl ?_
    refine E_istore (L2 := [some (.ref 65), some (.int 5), some (.int a2), some (.int a3), some (.int a4), some (.int (-3)), none, none, none, none, none, none]) rfl rfl ?_
    refine E_iconst (x := 0) rfl (by decide) ?_
    refine E_istore (L2 := [some (.ref 65), some (.int 5), some (.int a2), some (.int a3), some (.int a4), some (.int (-3)), some (.int 0), none, none, none, none, none]) rfl rfl ?_
    refine E_iload rfl rfl ?_
    refine E_iload_n rfl rfl ?_
    refine E_ic (t := 80) (b := true) rfl rfl ((cn_ge (by decide : (0 : Int32).toInt = 0) (rfl : (a2).toInt = (a2).toInt)).trans (decide_eq_true (by omega))) ?_
    refine E_iload rfl rfl ?_
    refine E_if (t := 92) (b := false) rfl rfl (by decide) ?_
    refine E_aload_n rfl rfl ?_
    refine E_iload rfl rfl ?_
    refine E_callV (v := some (.int (-13))) (As := [.ref 65, .int (-3)]) (r0 := []) (cs2 := ((w0.set 48 (.inl [0, 0, 0, 1, 0, 0, 0, 0])).set 66 (.inl [0, 0, 0, 1, 0, 0, 0, 0]))) rfl rfl rfl (Nat.le_of_ble_eq_true rfl) rfl rfl c258_X6_noTen (by decide) (by simp only [List.length_set]) ?_
    exact E_iret rfl rfl, (by simp only [List.length_set]; rfl), (by simp only [List.length_set]; rfl), ((ab_szs rfl).trans ((ab_szs rfl).trans rfl)), fun _ => rfl⟩
theorem f_costs_16 (a2 a3 a4 : Int32) (ha2l : (1 : Int) ≤ a2.toInt) (ha3l : (0 : Int) ≤ a3.toInt) (ha3h : a3.toInt ≤ 7) (ha4h : a4.toInt ≤ -1) : p1_P 6 100 4 188 [.ref 0, .int 5, .int a2, .int a3, .int a4] [.ref 65, .int 5, .int a2, .int a3, .int a4] :=
  ⟨(-13), (w0.set 48 (.inl [0, 0, 0, 1, 0, 0, 0, 0])), ((w0.set 48 (.inl [0, 0, 0, 1, 0, 0, 0, 0])).set 66 (.inl [0, 0, 0, 1, 0, 0, 0, 0])), by
    refine Ef.in (md := mX5_costs) (L := [some (.ref 0), some (.int 5), some (.int a2), some (.int a3), some (.int a4), none, none, none, none]) rfl (Nat.le_of_ble_eq_true rfl) rfl ?_
    refine E_iload_n rfl rfl ?_
    have e2 : Ev ab_Z0 1 47 [.int a3] w0 (some (.int 1), w0) := by
      refine Ef.in (md := mX4_isWish) (L := [some (.int a3)]) rfl (Nat.le_of_ble_eq_true rfl) rfl ?_
      refine E_iload_n rfl rfl ?_
      refine E_if (t := 14) (b := false) rfl rfl ((cn_lt (rfl : (a3).toInt = (a3).toInt) (by decide : (0 : Int32).toInt = 0)).trans (decide_eq_false (by omega))) ?_
      refine E_iload_n rfl rfl ?_
      refine E_bipush (x := 8) rfl (by decide) ?_
      refine E_ic (t := 14) (b := false) rfl rfl ((cn_ge (rfl : (a3).toInt = (a3).toInt) (by decide : (8 : Int32).toInt = 8)).trans (decide_eq_false (by omega))) ?_
      refine E_iconst (x := 1) rfl (by decide) ?_
      refine E_goto (t := 15) rfl rfl ?_
      exact E_iret rfl rfl
    refine E_callS (v := some (.int 1)) (As := [.int a3]) (r0 := []) (cs2 := w0) rfl rfl rfl (Nat.le_of_ble_eq_true rfl) rfl e2 (by decide) rfl ?_
    refine E_if (t := 31) (b := false) rfl rfl (by decide) ?_
    refine E_aload_n rfl rfl ?_
    refine E_iload_n rfl rfl ?_
    refine E_iload_n rfl rfl ?_
    refine E_bipush (x := 40) rfl (by decide) ?_
    refine E_iload rfl rfl ?_
    have e19 : Ev ab_Z0 1 116 [.int a4] w0 (some (.int 0), w0) := by
      refine Ef.in (md := mX5_isOneOfTwo) (L := [some (.int a4)]) rfl (Nat.le_of_ble_eq_true rfl) rfl ?_
      refine E_iload_n rfl rfl ?_
      refine E_if (t := 9) (b := false) rfl rfl ((cn_eq (rfl : (a4).toInt = (a4).toInt) (by decide : (0 : Int32).toInt = 0)).trans (decide_eq_false (by omega))) ?_
      refine E_iload_n rfl rfl ?_
      refine E_iconst (x := 1) rfl (by decide) ?_
      refine E_ic (t := 13) (b := true) rfl rfl ((cn_ne (rfl : (a4).toInt = (a4).toInt) (by decide : (1 : Int32).toInt = 1)).trans (decide_eq_true (by omega))) ?_
      refine E_iconst (x := 0) rfl (by decide) ?_
      exact E_iret rfl rfl
    refine E_callS (v := some (.int 0)) (As := [.int a4]) (r0 := [.int 40, .int a2, .int 5, .ref 0]) (cs2 := w0) rfl rfl rfl (Nat.le_of_ble_eq_true rfl) rfl e19 (by decide) rfl ?_
    refine E_if (t := 24) (b := false) rfl rfl (by decide) ?_
    refine E_iconst (x := 1) rfl (by decide) ?_
    refine E_goto (t := 25) rfl rfl ?_
    have e32 : Ev ab_Z0 3 120 [.ref 0, .int 5, .int a2, .int 40, .int 1] w0 (some (.int 3), w0) := by
      refine Ef.in (md := mX5_whyNoTwos) (L := [some (.ref 0), some (.int 5), some (.int a2), some (.int 40), some (.int 1), none]) rfl (Nat.le_of_ble_eq_true rfl) rfl ?_
      refine E_aload_n rfl rfl ?_
      refine E_iload_n rfl rfl ?_
      refine E_callV (v := some (.int 3)) (As := [.ref 0, .int 5]) (r0 := []) (cs2 := w0) rfl rfl rfl (Nat.le_of_ble_eq_true rfl) rfl rfl c52_X5_whyNoRow (by decide) rfl ?_
      refine E_istore (L2 := [some (.ref 0), some (.int 5), some (.int a2), some (.int 40), some (.int 1), some (.int 3)]) rfl rfl ?_
      refine E_iload rfl rfl ?_
      refine E_if (t := 15) (b := false) rfl rfl (by decide) ?_
      refine E_iload rfl rfl ?_
      exact E_iret rfl rfl
    refine E_callV (v := some (.int 3)) (As := [.ref 0, .int 5, .int a2, .int 40, .int 1]) (r0 := []) (cs2 := w0) rfl rfl rfl (Nat.le_of_ble_eq_true rfl) rfl rfl e32 (by decide) rfl ?_
    refine E_goto (t := 32) rfl rfl ?_
    refine E_istore (L2 := [some (.ref 0), some (.int 5), some (.int a2), some (.int a3), some (.int a4), some (.int 3), none, none, none]) rfl rfl ?_
    refine E_iload rfl rfl ?_
    refine E_if (t := 56) (b := true) rfl rfl (by decide) ?_
    refine E_iload rfl rfl ?_
    refine E_if (t := 71) (b := false) rfl rfl (by decide) ?_
    refine E_aload_n rfl rfl ?_
    refine E_iload rfl rfl ?_
    refine E_callV (v := some (.int (-3))) (As := [.ref 0, .int 3]) (r0 := []) (cs2 := (w0.set 48 (.inl [0, 0, 0, 1, 0, 0, 0, 0]))) rfl rfl rfl (Nat.le_of_ble_eq_true rfl) rfl rfl c32_X5_refuse (by decide) (by simp only [List.length_set]) ?_
    refine E_bipush (x := 10) rfl (by decide) ?_
    refine E_isub (z := (-13)) rfl (by decide) ?_
    exact E_iret rfl rfl, by
    refine Ef.in (md := mX6_costs) (L := [some (.ref 65), some (.int 5), some (.int a2), some (.int a3), some (.int a4), none, none, none, none, none, none, none]) rfl (Nat.le_of_ble_eq_true rfl) rfl ?_
    refine E_aload_n rfl rfl ?_
    refine E_iload_n rfl rfl ?_
    refine E_iconst (x := 0) rfl (by decide) ?_
    refine E_bipush (x := 7) rfl (by decide) ?_
    have e5 : Ev ab_Z0 1 134 [.ref 65, .int a3, .int 0, .int 7] (w0.set 48 (.inl [0, 0, 0, 1, 0, 0, 0, 0])) (some (.int 1), (w0.set 48 (.inl [0, 0, 0, 1, 0, 0, 0, 0]))) := by
      refine Ef.in (md := mX6_isFrom) (L := [some (.ref 65), some (.int a3), some (.int 0), some (.int 7)]) rfl (Nat.le_of_ble_eq_true rfl) rfl ?_
      refine E_iload_n rfl rfl ?_
      refine E_iload_n rfl rfl ?_
      refine E_ic (t := 14) (b := false) rfl rfl ((cn_lt (rfl : (a3).toInt = (a3).toInt) (by decide : (0 : Int32).toInt = 0)).trans (decide_eq_false (by omega))) ?_
      refine E_iload_n rfl rfl ?_
      refine E_iload_n rfl rfl ?_
      refine E_ic (t := 14) (b := false) rfl rfl ((cn_gt (rfl : (a3).toInt = (a3).toInt) (by decide : (7 : Int32).toInt = 7)).trans (decide_eq_false (by omega))) ?_
      refine E_iconst (x := 1) rfl (by decide) ?_
      refine E_goto (t := 15) rfl rfl ?_
      exact E_iret rfl rfl
    refine E_callV (v := some (.int 1)) (As := [.ref 65, .int a3, .int 0, .int 7]) (r0 := []) (cs2 := (w0.set 48 (.inl [0, 0, 0, 1, 0, 0, 0, 0]))) rfl rfl rfl (Nat.le_of_ble_eq_true rfl) rfl rfl e5 (by decide) rfl ?_
    refine E_if (t := 15) (b := true) rfl rfl (by decide) ?_
    refine E_aload_n rfl rfl ?_
    refine E_iload_n rfl rfl ?_
    refine E_iload_n rfl rfl ?_
    refine E_bipush (x := 40) rfl (by decide) ?_
    refine E_iload rfl rfl ?_
    refine E_if (t := 31) (b := false) rfl rfl ((cn_eq (rfl : (a4).toInt = (a4).toInt) (by decide : (0 : Int32).toInt = 0)).trans (decide_eq_false (by omega))) ?_
    refine E_iload rfl rfl ?_
    refine E_iconst (x := 1) rfl (by decide) ?_
    refine E_ic (t := 35) (b := true) rfl rfl ((cn_ne (rfl : (a4).toInt = (a4).toInt) (by decide : (1 : Int32).toInt = 1)).trans (decide_eq_true (by omega))) ?_
    refine E_iconst (x := 0) rfl (by decide) ?_
    have e28 : Ev ab_Z0 3 186 [.ref 65, .int 5, .int a2, .int 40, .int 0] (w0.set 48 (.inl [0, 0, 0, 1, 0, 0, 0, 0])) (some (.int (-3)), (w0.set 48 (.inl [0, 0, 0, 1, 0, 0, 0, 0]))) := by
      refine Ef.in (md := mX6_barsOf) (L := [some (.ref 65), some (.int 5), some (.int a2), some (.int 40), some (.int 0), none]) rfl (Nat.le_of_ble_eq_true rfl) rfl ?_
      refine E_aload_n rfl rfl ?_
      refine E_iload_n rfl rfl ?_
      refine E_callV (v := some (.int (-3))) (As := [.ref 65, .int 5]) (r0 := []) (cs2 := (w0.set 48 (.inl [0, 0, 0, 1, 0, 0, 0, 0]))) rfl rfl rfl (Nat.le_of_ble_eq_true rfl) rfl rfl c220_X6_wanted (by decide) rfl ?_
      refine E_istore (L2 := [some (.ref 65), some (.int 5), some (.int a2), some (.int 40), some (.int 0), some (.int (-3))]) rfl rfl ?_
      refine E_iload rfl rfl ?_
      refine E_if (t := 17) (b := false) rfl rfl (by decide) ?_
      refine E_iload rfl rfl ?_
      refine E_goto (t := 59) rfl rfl ?_
      exact E_iret rfl rfl
    refine E_callV (v := some (.int (-3))) (As := [.ref 65, .int 5, .int a2, .int 40, .int 0]) (r0 := []) (cs2 := (w0.set 48 (.inl [0, 0, 0, 1, 0, 0, 0, 0]))) rfl rfl rfl (Nat.le_of_ble_eq_true rfl) rfl rfl e28 (by decide) rfl ?_
    refine E_istore (L2 := [some (.ref 65), some (.int 5), some (.int a2), some (.int a3), some (.int a4), some (.int (-3)), none, none, none, none, none, none]) rfl rfl ?_
    refine E_iconst (x := 0) rfl (by decide) ?_
    refine E_istore (L2 := [some (.ref 65), some (.int 5), some (.int a2), some (.int a3), some (.int a4), some (.int (-3)), some (.int 0), none, none, none, none, none]) rfl rfl ?_
    refine E_iload rfl rfl ?_
    refine E_iload_n rfl rfl ?_
    refine E_ic (t := 80) (b := false) rfl rfl ((cn_ge (by decide : (0 : Int32).toInt = 0) (rfl : (a2).toInt = (a2).toInt)).trans (decide_eq_false (by omega))) ?_
    refine E_iload rfl rfl ?_
    refine E_if (t := 80) (b := true) rfl rfl (by decide) ?_
    refine E_iload rfl rfl ?_
    refine E_if (t := 92) (b := false) rfl rfl (by decide) ?_
    refine E_aload_n rfl rfl ?_
    refine E_iload rfl rfl ?_
    refine E_callV (v := some (.int (-13))) (As := [.ref 65, .int (-3)]) (r0 := []) (cs2 := ((w0.set 48 (.inl [0, 0, 0, 1, 0, 0, 0, 0])).set 66 (.inl [0, 0, 0, 1, 0, 0, 0, 0]))) rfl rfl rfl (Nat.le_of_ble_eq_true rfl) rfl rfl c258_X6_noTen (by decide) (by simp only [List.length_set]) ?_
    exact E_iret rfl rfl, (by simp only [List.length_set]; rfl), (by simp only [List.length_set]; rfl), ((ab_szs rfl).trans ((ab_szs rfl).trans rfl)), fun _ => rfl⟩
theorem f_costs_17 (a2 a3 a4 : Int32) (ha2h : a2.toInt ≤ 0) (ha3l : (0 : Int) ≤ a3.toInt) (ha3h : a3.toInt ≤ 7) (ha4h : a4.toInt ≤ -1) : p1_P 6 100 4 188 [.ref 0, .int 6, .int a2, .int a3, .int a4] [.ref 65, .int 6, .int a2, .int a3, .int a4] :=
  ⟨(-13), (w0.set 48 (.inl [0, 0, 0, 1, 0, 0, 0, 0])), ((w0.set 48 (.inl [0, 0, 0, 1, 0, 0, 0, 0])).set 66 (.inl [0, 0, 0, 1, 0, 0, 0, 0])), by
    refine Ef.in (md := mX5_costs) (L := [some (.ref 0), some (.int 6), some (.int a2), some (.int a3), some (.int a4), none, none, none, none]) rfl (Nat.le_of_ble_eq_true rfl) rfl ?_
    refine E_iload_n rfl rfl ?_
    have e2 : Ev ab_Z0 1 47 [.int a3] w0 (some (.int 1), w0) := by
      refine Ef.in (md := mX4_isWish) (L := [some (.int a3)]) rfl (Nat.le_of_ble_eq_true rfl) rfl ?_
      refine E_iload_n rfl rfl ?_
      refine E_if (t := 14) (b := false) rfl rfl ((cn_lt (rfl : (a3).toInt = (a3).toInt) (by decide : (0 : Int32).toInt = 0)).trans (decide_eq_false (by omega))) ?_
      refine E_iload_n rfl rfl ?_
      refine E_bipush (x := 8) rfl (by decide) ?_
      refine E_ic (t := 14) (b := false) rfl rfl ((cn_ge (rfl : (a3).toInt = (a3).toInt) (by decide : (8 : Int32).toInt = 8)).trans (decide_eq_false (by omega))) ?_
      refine E_iconst (x := 1) rfl (by decide) ?_
      refine E_goto (t := 15) rfl rfl ?_
      exact E_iret rfl rfl
    refine E_callS (v := some (.int 1)) (As := [.int a3]) (r0 := []) (cs2 := w0) rfl rfl rfl (Nat.le_of_ble_eq_true rfl) rfl e2 (by decide) rfl ?_
    refine E_if (t := 31) (b := false) rfl rfl (by decide) ?_
    refine E_aload_n rfl rfl ?_
    refine E_iload_n rfl rfl ?_
    refine E_iload_n rfl rfl ?_
    refine E_bipush (x := 40) rfl (by decide) ?_
    refine E_iload rfl rfl ?_
    have e19 : Ev ab_Z0 1 116 [.int a4] w0 (some (.int 0), w0) := by
      refine Ef.in (md := mX5_isOneOfTwo) (L := [some (.int a4)]) rfl (Nat.le_of_ble_eq_true rfl) rfl ?_
      refine E_iload_n rfl rfl ?_
      refine E_if (t := 9) (b := false) rfl rfl ((cn_eq (rfl : (a4).toInt = (a4).toInt) (by decide : (0 : Int32).toInt = 0)).trans (decide_eq_false (by omega))) ?_
      refine E_iload_n rfl rfl ?_
      refine E_iconst (x := 1) rfl (by decide) ?_
      refine E_ic (t := 13) (b := true) rfl rfl ((cn_ne (rfl : (a4).toInt = (a4).toInt) (by decide : (1 : Int32).toInt = 1)).trans (decide_eq_true (by omega))) ?_
      refine E_iconst (x := 0) rfl (by decide) ?_
      exact E_iret rfl rfl
    refine E_callS (v := some (.int 0)) (As := [.int a4]) (r0 := [.int 40, .int a2, .int 6, .ref 0]) (cs2 := w0) rfl rfl rfl (Nat.le_of_ble_eq_true rfl) rfl e19 (by decide) rfl ?_
    refine E_if (t := 24) (b := false) rfl rfl (by decide) ?_
    refine E_iconst (x := 1) rfl (by decide) ?_
    refine E_goto (t := 25) rfl rfl ?_
    have e32 : Ev ab_Z0 3 120 [.ref 0, .int 6, .int a2, .int 40, .int 1] w0 (some (.int 3), w0) := by
      refine Ef.in (md := mX5_whyNoTwos) (L := [some (.ref 0), some (.int 6), some (.int a2), some (.int 40), some (.int 1), none]) rfl (Nat.le_of_ble_eq_true rfl) rfl ?_
      refine E_aload_n rfl rfl ?_
      refine E_iload_n rfl rfl ?_
      refine E_callV (v := some (.int 3)) (As := [.ref 0, .int 6]) (r0 := []) (cs2 := w0) rfl rfl rfl (Nat.le_of_ble_eq_true rfl) rfl rfl c56_X5_whyNoRow (by decide) rfl ?_
      refine E_istore (L2 := [some (.ref 0), some (.int 6), some (.int a2), some (.int 40), some (.int 1), some (.int 3)]) rfl rfl ?_
      refine E_iload rfl rfl ?_
      refine E_if (t := 15) (b := false) rfl rfl (by decide) ?_
      refine E_iload rfl rfl ?_
      exact E_iret rfl rfl
    refine E_callV (v := some (.int 3)) (As := [.ref 0, .int 6, .int a2, .int 40, .int 1]) (r0 := []) (cs2 := w0) rfl rfl rfl (Nat.le_of_ble_eq_true rfl) rfl rfl e32 (by decide) rfl ?_
    refine E_goto (t := 32) rfl rfl ?_
    refine E_istore (L2 := [some (.ref 0), some (.int 6), some (.int a2), some (.int a3), some (.int a4), some (.int 3), none, none, none]) rfl rfl ?_
    refine E_iload rfl rfl ?_
    refine E_if (t := 56) (b := true) rfl rfl (by decide) ?_
    refine E_iload rfl rfl ?_
    refine E_if (t := 71) (b := false) rfl rfl (by decide) ?_
    refine E_aload_n rfl rfl ?_
    refine E_iload rfl rfl ?_
    refine E_callV (v := some (.int (-3))) (As := [.ref 0, .int 3]) (r0 := []) (cs2 := (w0.set 48 (.inl [0, 0, 0, 1, 0, 0, 0, 0]))) rfl rfl rfl (Nat.le_of_ble_eq_true rfl) rfl rfl c32_X5_refuse (by decide) (by simp only [List.length_set]) ?_
    refine E_bipush (x := 10) rfl (by decide) ?_
    refine E_isub (z := (-13)) rfl (by decide) ?_
    exact E_iret rfl rfl, by
    refine Ef.in (md := mX6_costs) (L := [some (.ref 65), some (.int 6), some (.int a2), some (.int a3), some (.int a4), none, none, none, none, none, none, none]) rfl (Nat.le_of_ble_eq_true rfl) rfl ?_
    refine E_aload_n rfl rfl ?_
    refine E_iload_n rfl rfl ?_
    refine E_iconst (x := 0) rfl (by decide) ?_
    refine E_bipush (x := 7) rfl (by decide) ?_
    have e5 : Ev ab_Z0 1 134 [.ref 65, .int a3, .int 0, .int 7] (w0.set 48 (.inl [0, 0, 0, 1, 0, 0, 0, 0])) (some (.int 1), (w0.set 48 (.inl [0, 0, 0, 1, 0, 0, 0, 0]))) := by
      refine Ef.in (md := mX6_isFrom) (L := [some (.ref 65), some (.int a3), some (.int 0), some (.int 7)]) rfl (Nat.le_of_ble_eq_true rfl) rfl ?_
      refine E_iload_n rfl rfl ?_
      refine E_iload_n rfl rfl ?_
      refine E_ic (t := 14) (b := false) rfl rfl ((cn_lt (rfl : (a3).toInt = (a3).toInt) (by decide : (0 : Int32).toInt = 0)).trans (decide_eq_false (by omega))) ?_
      refine E_iload_n rfl rfl ?_
      refine E_iload_n rfl rfl ?_
      refine E_ic (t := 14) (b := false) rfl rfl ((cn_gt (rfl : (a3).toInt = (a3).toInt) (by decide : (7 : Int32).toInt = 7)).trans (decide_eq_false (by omega))) ?_
      refine E_iconst (x := 1) rfl (by decide) ?_
      refine E_goto (t := 15) rfl rfl ?_
      exact E_iret rfl rfl
    refine E_callV (v := some (.int 1)) (As := [.ref 65, .int a3, .int 0, .int 7]) (r0 := []) (cs2 := (w0.set 48 (.inl [0, 0, 0, 1, 0, 0, 0, 0]))) rfl rfl rfl (Nat.le_of_ble_eq_true rfl) rfl rfl e5 (by decide) rfl ?_
    refine E_if (t := 15) (b := true) rfl rfl (by decide) ?_
    refine E_aload_n rfl rfl ?_
    refine E_iload_n rfl rfl ?_
    refine E_iload_n rfl rfl ?_
    refine E_bipush (x := 40) rfl (by decide) ?_
    refine E_iload rfl rfl ?_
    refine E_if (t := 31) (b := false) rfl rfl ((cn_eq (rfl : (a4).toInt = (a4).toInt) (by decide : (0 : Int32).toInt = 0)).trans (decide_eq_false (by omega))) ?_
    refine E_iload rfl rfl ?_
    refine E_iconst (x := 1) rfl (by decide) ?_
    refine E_ic (t := 35) (b := true) rfl rfl ((cn_ne (rfl : (a4).toInt = (a4).toInt) (by decide : (1 : Int32).toInt = 1)).trans (decide_eq_true (by omega))) ?_
    refine E_iconst (x := 0) rfl (by decide) ?_
    have e28 : Ev ab_Z0 3 186 [.ref 65, .int 6, .int a2, .int 40, .int 0] (w0.set 48 (.inl [0, 0, 0, 1, 0, 0, 0, 0])) (some (.int (-3)), (w0.set 48 (.inl [0, 0, 0, 1, 0, 0, 0, 0]))) := by
      refine Ef.in (md := mX6_barsOf) (L := [some (.ref 65), some (.int 6), some (.int a2), some (.int 40), some (.int 0), none]) rfl (Nat.le_of_ble_eq_true rfl) rfl ?_
      refine E_aload_n rfl rfl ?_
      refine E_iload_n rfl rfl ?_
      refine E_callV (v := some (.int (-3))) (As := [.ref 65, .int 6]) (r0 := []) (cs2 := (w0.set 48 (.inl [0, 0, 0, 1, 0, 0, 0, 0]))) rfl rfl rfl (Nat.le_of_ble_eq_true rfl) rfl rfl c223_X6_wanted (by decide) rfl ?_
      refine E_istore (L2 := [some (.ref 65), some (.int 6), some (.int a2), some (.int 40), some (.int 0), some (.int (-3))]) rfl rfl ?_
      refine E_iload rfl rfl ?_
      refine E_if (t := 17) (b := false) rfl rfl (by decide) ?_
      refine E_iload rfl rfl ?_
      refine E_goto (t := 59) rfl rfl ?_
      exact E_iret rfl rfl
    refine E_callV (v := some (.int (-3))) (As := [.ref 65, .int 6, .int a2, .int 40, .int 0]) (r0 := []) (cs2 := (w0.set 48 (.inl [0, 0, 0, 1, 0, 0, 0, 0]))) rfl rfl rfl (Nat.le_of_ble_eq_true rfl) rfl rfl e28 (by decide) rfl ?_
    refine E_istore (L2 := [some (.ref 65), some (.int 6), some (.int a2), some (.int a3), some (.int a4), some (.int (-3)), none, none, none, none, none, none]) rfl rfl ?_
    refine E_iconst (x := 0) rfl (by decide) ?_
    refine E_istore (L2 := [some (.ref 65), some (.int 6), some (.int a2), some (.int a3), some (.int a4), some (.int (-3)), some (.int 0), none, none, none, none, none]) rfl rfl ?_
    refine E_iload rfl rfl ?_
    refine E_iload_n rfl rfl ?_
    refine E_ic (t := 80) (b := true) rfl rfl ((cn_ge (by decide : (0 : Int32).toInt = 0) (rfl : (a2).toInt = (a2).toInt)).trans (decide_eq_true (by omega))) ?_
    refine E_iload rfl rfl ?_
    refine E_if (t := 92) (b := false) rfl rfl (by decide) ?_
    refine E_aload_n rfl rfl ?_
    refine E_iload rfl rfl ?_
    refine E_callV (v := some (.int (-13))) (As := [.ref 65, .int (-3)]) (r0 := []) (cs2 := ((w0.set 48 (.inl [0, 0, 0, 1, 0, 0, 0, 0])).set 66 (.inl [0, 0, 0, 1, 0, 0, 0, 0]))) rfl rfl rfl (Nat.le_of_ble_eq_true rfl) rfl rfl c258_X6_noTen (by decide) (by simp only [List.length_set]) ?_
    exact E_iret rfl rfl, (by simp only [List.length_set]; rfl), (by simp only [List.length_set]; rfl), ((ab_szs rfl).trans ((ab_szs rfl).trans rfl)), fun _ => rfl⟩
theorem f_costs_18 (a2 a3 a4 : Int32) (ha2l : (1 : Int) ≤ a2.toInt) (ha3l : (0 : Int) ≤ a3.toInt) (ha3h : a3.toInt ≤ 7) (ha4h : a4.toInt ≤ -1) : p1_P 6 100 4 188 [.ref 0, .int 6, .int a2, .int a3, .int a4] [.ref 65, .int 6, .int a2, .int a3, .int a4] :=
  ⟨(-13), (w0.set 48 (.inl [0, 0, 0, 1, 0, 0, 0, 0])), ((w0.set 48 (.inl [0, 0, 0, 1, 0, 0, 0, 0])).set 66 (.inl [0, 0, 0, 1, 0, 0, 0, 0])), by
    refine Ef.in (md := mX5_costs) (L := [some (.ref 0), some (.int 6), some (.int a2), some (.int a3), some (.int a4), none, none, none, none]) rfl (Nat.le_of_ble_eq_true rfl) rfl ?_
    refine E_iload_n rfl rfl ?_
    have e2 : Ev ab_Z0 1 47 [.int a3] w0 (some (.int 1), w0) := by
      refine Ef.in (md := mX4_isWish) (L := [some (.int a3)]) rfl (Nat.le_of_ble_eq_true rfl) rfl ?_
      refine E_iload_n rfl rfl ?_
      refine E_if (t := 14) (b := false) rfl rfl ((cn_lt (rfl : (a3).toInt = (a3).toInt) (by decide : (0 : Int32).toInt = 0)).trans (decide_eq_false (by omega))) ?_
      refine E_iload_n rfl rfl ?_
      refine E_bipush (x := 8) rfl (by decide) ?_
      refine E_ic (t := 14) (b := false) rfl rfl ((cn_ge (rfl : (a3).toInt = (a3).toInt) (by decide : (8 : Int32).toInt = 8)).trans (decide_eq_false (by omega))) ?_
      refine E_iconst (x := 1) rfl (by decide) ?_
      refine E_goto (t := 15) rfl rfl ?_
      exact E_iret rfl rfl
    refine E_callS (v := some (.int 1)) (As := [.int a3]) (r0 := []) (cs2 := w0) rfl rfl rfl (Nat.le_of_ble_eq_true rfl) rfl e2 (by decide) rfl ?_
    refine E_if (t := 31) (b := false) rfl rfl (by decide) ?_
    refine E_aload_n rfl rfl ?_
    refine E_iload_n rfl rfl ?_
    refine E_iload_n rfl rfl ?_
    refine E_bipush (x := 40) rfl (by decide) ?_
    refine E_iload rfl rfl ?_
    have e19 : Ev ab_Z0 1 116 [.int a4] w0 (some (.int 0), w0) := by
      refine Ef.in (md := mX5_isOneOfTwo) (L := [some (.int a4)]) rfl (Nat.le_of_ble_eq_true rfl) rfl ?_
      refine E_iload_n rfl rfl ?_
      refine E_if (t := 9) (b := false) rfl rfl ((cn_eq (rfl : (a4).toInt = (a4).toInt) (by decide : (0 : Int32).toInt = 0)).trans (decide_eq_false (by omega))) ?_
      refine E_iload_n rfl rfl ?_
      refine E_iconst (x := 1) rfl (by decide) ?_
      refine E_ic (t := 13) (b := true) rfl rfl ((cn_ne (rfl : (a4).toInt = (a4).toInt) (by decide : (1 : Int32).toInt = 1)).trans (decide_eq_true (by omega))) ?_
      refine E_iconst (x := 0) rfl (by decide) ?_
      exact E_iret rfl rfl
    refine E_callS (v := some (.int 0)) (As := [.int a4]) (r0 := [.int 40, .int a2, .int 6, .ref 0]) (cs2 := w0) rfl rfl rfl (Nat.le_of_ble_eq_true rfl) rfl e19 (by decide) rfl ?_
    refine E_if (t := 24) (b := false) rfl rfl (by decide) ?_
    refine E_iconst (x := 1) rfl (by decide) ?_
    refine E_goto (t := 25) rfl rfl ?_
    have e32 : Ev ab_Z0 3 120 [.ref 0, .int 6, .int a2, .int 40, .int 1] w0 (some (.int 3), w0) := by
      refine Ef.in (md := mX5_whyNoTwos) (L := [some (.ref 0), some (.int 6), some (.int a2), some (.int 40), some (.int 1), none]) rfl (Nat.le_of_ble_eq_true rfl) rfl ?_
      refine E_aload_n rfl rfl ?_
      refine E_iload_n rfl rfl ?_
      refine E_callV (v := some (.int 3)) (As := [.ref 0, .int 6]) (r0 := []) (cs2 := w0) rfl rfl rfl (Nat.le_of_ble_eq_true rfl) rfl rfl c56_X5_whyNoRow (by decide) rfl ?_
      refine E_istore (L2 := [some (.ref 0), some (.int 6), some (.int a2), some (.int 40), some (.int 1), some (.int 3)]) rfl rfl ?_
      refine E_iload rfl rfl ?_
      refine E_if (t := 15) (b := false) rfl rfl (by decide) ?_
      refine E_iload rfl rfl ?_
      exact E_iret rfl rfl
    refine E_callV (v := some (.int 3)) (As := [.ref 0, .int 6, .int a2, .int 40, .int 1]) (r0 := []) (cs2 := w0) rfl rfl rfl (Nat.le_of_ble_eq_true rfl) rfl rfl e32 (by decide) rfl ?_
    refine E_goto (t := 32) rfl rfl ?_
    refine E_istore (L2 := [some (.ref 0), some (.int 6), some (.int a2), some (.int a3), some (.int a4), some (.int 3), none, none, none]) rfl rfl ?_
    refine E_iload rfl rfl ?_
    refine E_if (t := 56) (b := true) rfl rfl (by decide) ?_
    refine E_iload rfl rfl ?_
    refine E_if (t := 71) (b := false) rfl rfl (by decide) ?_
    refine E_aload_n rfl rfl ?_
    refine E_iload rfl rfl ?_
    refine E_callV (v := some (.int (-3))) (As := [.ref 0, .int 3]) (r0 := []) (cs2 := (w0.set 48 (.inl [0, 0, 0, 1, 0, 0, 0, 0]))) rfl rfl rfl (Nat.le_of_ble_eq_true rfl) rfl rfl c32_X5_refuse (by decide) (by simp only [List.length_set]) ?_
    refine E_bipush (x := 10) rfl (by decide) ?_
    refine E_isub (z := (-13)) rfl (by decide) ?_
    exact E_iret rfl rfl, by
    refine Ef.in (md := mX6_costs) (L := [some (.ref 65), some (.int 6), some (.int a2), some (.int a3), some (.int a4), none, none, none, none, none, none, none]) rfl (Nat.le_of_ble_eq_true rfl) rfl ?_
    refine E_aload_n rfl rfl ?_
    refine E_iload_n rfl rfl ?_
    refine E_iconst (x := 0) rfl (by decide) ?_
    refine E_bipush (x := 7) rfl (by decide) ?_
    have e5 : Ev ab_Z0 1 134 [.ref 65, .int a3, .int 0, .int 7] (w0.set 48 (.inl [0, 0, 0, 1, 0, 0, 0, 0])) (some (.int 1), (w0.set 48 (.inl [0, 0, 0, 1, 0, 0, 0, 0]))) := by
      refine Ef.in (md := mX6_isFrom) (L := [some (.ref 65), some (.int a3), some (.int 0), some (.int 7)]) rfl (Nat.le_of_ble_eq_true rfl) rfl ?_
      refine E_iload_n rfl rfl ?_
      refine E_iload_n rfl rfl ?_
      refine E_ic (t := 14) (b := false) rfl rfl ((cn_lt (rfl : (a3).toInt = (a3).toInt) (by decide : (0 : Int32).toInt = 0)).trans (decide_eq_false (by omega))) ?_
      refine E_iload_n rfl rfl ?_
      refine E_iload_n rfl rfl ?_
      refine E_ic (t := 14) (b := false) rfl rfl ((cn_gt (rfl : (a3).toInt = (a3).toInt) (by decide : (7 : Int32).toInt = 7)).trans (decide_eq_false (by omega))) ?_
      refine E_iconst (x := 1) rfl (by decide) ?_
      refine E_goto (t := 15) rfl rfl ?_
      exact E_iret rfl rfl
    refine E_callV (v := some (.int 1)) (As := [.ref 65, .int a3, .int 0, .int 7]) (r0 := []) (cs2 := (w0.set 48 (.inl [0, 0, 0, 1, 0, 0, 0, 0]))) rfl rfl rfl (Nat.le_of_ble_eq_true rfl) rfl rfl e5 (by decide) rfl ?_
    refine E_if (t := 15) (b := true) rfl rfl (by decide) ?_
    refine E_aload_n rfl rfl ?_
    refine E_iload_n rfl rfl ?_
    refine E_iload_n rfl rfl ?_
    refine E_bipush (x := 40) rfl (by decide) ?_
    refine E_iload rfl rfl ?_
    refine E_if (t := 31) (b := false) rfl rfl ((cn_eq (rfl : (a4).toInt = (a4).toInt) (by decide : (0 : Int32).toInt = 0)).trans (decide_eq_false (by omega))) ?_
    refine E_iload rfl rfl ?_
    refine E_iconst (x := 1) rfl (by decide) ?_
    refine E_ic (t := 35) (b := true) rfl rfl ((cn_ne (rfl : (a4).toInt = (a4).toInt) (by decide : (1 : Int32).toInt = 1)).trans (decide_eq_true (by omega))) ?_
    refine E_iconst (x := 0) rfl (by decide) ?_
    have e28 : Ev ab_Z0 3 186 [.ref 65, .int 6, .int a2, .int 40, .int 0] (w0.set 48 (.inl [0, 0, 0, 1, 0, 0, 0, 0])) (some (.int (-3)), (w0.set 48 (.inl [0, 0, 0, 1, 0, 0, 0, 0]))) := by
      refine Ef.in (md := mX6_barsOf) (L := [some (.ref 65), some (.int 6), some (.int a2), some (.int 40), some (.int 0), none]) rfl (Nat.le_of_ble_eq_true rfl) rfl ?_
      refine E_aload_n rfl rfl ?_
      refine E_iload_n rfl rfl ?_
      refine E_callV (v := some (.int (-3))) (As := [.ref 65, .int 6]) (r0 := []) (cs2 := (w0.set 48 (.inl [0, 0, 0, 1, 0, 0, 0, 0]))) rfl rfl rfl (Nat.le_of_ble_eq_true rfl) rfl rfl c223_X6_wanted (by decide) rfl ?_
      refine E_istore (L2 := [some (.ref 65), some (.int 6), some (.int a2), some (.int 40), some (.int 0), some (.int (-3))]) rfl rfl ?_
      refine E_iload rfl rfl ?_
      refine E_if (t := 17) (b := false) rfl rfl (by decide) ?_
      refine E_iload rfl rfl ?_
      refine E_goto (t := 59) rfl rfl ?_
      exact E_iret rfl rfl
    refine E_callV (v := some (.int (-3))) (As := [.ref 65, .int 6, .int a2, .int 40, .int 0]) (r0 := []) (cs2 := (w0.set 48 (.inl [0, 0, 0, 1, 0, 0, 0, 0]))) rfl rfl rfl (Nat.le_of_ble_eq_true rfl) rfl rfl e28 (by decide) rfl ?_
    refine E_istore (L2 := [some (.ref 65), some (.int 6), some (.int a2), some (.int a3), some (.int a4), some (.int (-3)), none, none, none, none, none, none]) rfl rfl ?_
    refine E_iconst (x := 0) rfl (by decide) ?_
    refine E_istore (L2 := [some (.ref 65), some (.int 6), some (.int a2), some (.int a3), some (.int a4), some (.int (-3)), some (.int 0), none, none, none, none, none]) rfl rfl ?_
    refine E_iload rfl rfl ?_
    refine E_iload_n rfl rfl ?_
    refine E_ic (t := 80) (b := false) rfl rfl ((cn_ge (by decide : (0 : Int32).toInt = 0) (rfl : (a2).toInt = (a2).toInt)).trans (decide_eq_false (by omega))) ?_
    refine E_iload rfl rfl ?_
    refine E_if (t := 80) (b := true) rfl rfl (by decide) ?_
    refine E_iload rfl rfl ?_
    refine E_if (t := 92) (b := false) rfl rfl (by decide) ?_
    refine E_aload_n rfl rfl ?_
    refine E_iload rfl rfl ?_
    refine E_callV (v := some (.int (-13))) (As := [.ref 65, .int (-3)]) (r0 := []) (cs2 := ((w0.set 48 (.inl [0, 0, 0, 1, 0, 0, 0, 0])).set 66 (.inl [0, 0, 0, 1, 0, 0, 0, 0]))) rfl rfl rfl (Nat.le_of_ble_eq_true rfl) rfl rfl c258_X6_noTen (by decide) (by simp only [List.length_set]) ?_
    exact E_iret rfl rfl, (by simp only [List.length_set]; rfl), (by simp only [List.length_set]; rfl), ((ab_szs rfl).trans ((ab_szs rfl).trans rfl)), fun _ => rfl⟩
theorem f_costs_19 (a2 a3 a4 : Int32) (ha2h : a2.toInt ≤ 0) (ha3l : (0 : Int) ≤ a3.toInt) (ha3h : a3.toInt ≤ 7) (ha4h : a4.toInt ≤ -1) : p1_P 6 100 4 188 [.ref 0, .int 7, .int a2, .int a3, .int a4] [.ref 65, .int 7, .int a2, .int a3, .int a4] :=
  ⟨(-13), (w0.set 48 (.inl [0, 0, 0, 1, 0, 0, 0, 0])), ((w0.set 48 (.inl [0, 0, 0, 1, 0, 0, 0, 0])).set 66 (.inl [0, 0, 0, 1, 0, 0, 0, 0])), by
    refine Ef.in (md := mX5_costs) (L := [some (.ref 0), some (.int 7), some (.int a2), some (.int a3), some (.int a4), none, none, none, none]) rfl (Nat.le_of_ble_eq_true rfl) rfl ?_
    refine E_iload_n rfl rfl ?_
    have e2 : Ev ab_Z0 1 47 [.int a3] w0 (some (.int 1), w0) := by
      refine Ef.in (md := mX4_isWish) (L := [some (.int a3)]) rfl (Nat.le_of_ble_eq_true rfl) rfl ?_
      refine E_iload_n rfl rfl ?_
      refine E_if (t := 14) (b := false) rfl rfl ((cn_lt (rfl : (a3).toInt = (a3).toInt) (by decide : (0 : Int32).toInt = 0)).trans (decide_eq_false (by omega))) ?_
      refine E_iload_n rfl rfl ?_
      refine E_bipush (x := 8) rfl (by decide) ?_
      refine E_ic (t := 14) (b := false) rfl rfl ((cn_ge (rfl : (a3).toInt = (a3).toInt) (by decide : (8 : Int32).toInt = 8)).trans (decide_eq_false (by omega))) ?_
      refine E_iconst (x := 1) rfl (by decide) ?_
      refine E_goto (t := 15) rfl rfl ?_
      exact E_iret rfl rfl
    refine E_callS (v := some (.int 1)) (As := [.int a3]) (r0 := []) (cs2 := w0) rfl rfl rfl (Nat.le_of_ble_eq_true rfl) rfl e2 (by decide) rfl ?_
    refine E_if (t := 31) (b := false) rfl rfl (by decide) ?_
    refine E_aload_n rfl rfl ?_
    refine E_iload_n rfl rfl ?_
    refine E_iload_n rfl rfl ?_
    refine E_bipush (x := 40) rfl (by decide) ?_
    refine E_iload rfl rfl ?_
    have e19 : Ev ab_Z0 1 116 [.int a4] w0 (some (.int 0), w0) := by
      refine Ef.in (md := mX5_isOneOfTwo) (L := [some (.int a4)]) rfl (Nat.le_of_ble_eq_true rfl) rfl ?_
      refine E_iload_n rfl rfl ?_
      refine E_if (t := 9) (b := false) rfl rfl ((cn_eq (rfl : (a4).toInt = (a4).toInt) (by decide : (0 : Int32).toInt = 0)).trans (decide_eq_false (by omega))) ?_
      refine E_iload_n rfl rfl ?_
      refine E_iconst (x := 1) rfl (by decide) ?_
      refine E_ic (t := 13) (b := true) rfl rfl ((cn_ne (rfl : (a4).toInt = (a4).toInt) (by decide : (1 : Int32).toInt = 1)).trans (decide_eq_true (by omega))) ?_
      refine E_iconst (x := 0) rfl (by decide) ?_
      exact E_iret rfl rfl
    refine E_callS (v := some (.int 0)) (As := [.int a4]) (r0 := [.int 40, .int a2, .int 7, .ref 0]) (cs2 := w0) rfl rfl rfl (Nat.le_of_ble_eq_true rfl) rfl e19 (by decide) rfl ?_
    refine E_if (t := 24) (b := false) rfl rfl (by decide) ?_
    refine E_iconst (x := 1) rfl (by decide) ?_
    refine E_goto (t := 25) rfl rfl ?_
    have e32 : Ev ab_Z0 3 120 [.ref 0, .int 7, .int a2, .int 40, .int 1] w0 (some (.int 3), w0) := by
      refine Ef.in (md := mX5_whyNoTwos) (L := [some (.ref 0), some (.int 7), some (.int a2), some (.int 40), some (.int 1), none]) rfl (Nat.le_of_ble_eq_true rfl) rfl ?_
      refine E_aload_n rfl rfl ?_
      refine E_iload_n rfl rfl ?_
      refine E_callV (v := some (.int 3)) (As := [.ref 0, .int 7]) (r0 := []) (cs2 := w0) rfl rfl rfl (Nat.le_of_ble_eq_true rfl) rfl rfl c60_X5_whyNoRow (by decide) rfl ?_
      refine E_istore (L2 := [some (.ref 0), some (.int 7), some (.int a2), some (.int 40), some (.int 1), some (.int 3)]) rfl rfl ?_
      refine E_iload rfl rfl ?_
      refine E_if (t := 15) (b := false) rfl rfl (by decide) ?_
      refine E_iload rfl rfl ?_
      exact E_iret rfl rfl
    refine E_callV (v := some (.int 3)) (As := [.ref 0, .int 7, .int a2, .int 40, .int 1]) (r0 := []) (cs2 := w0) rfl rfl rfl (Nat.le_of_ble_eq_true rfl) rfl rfl e32 (by decide) rfl ?_
    refine E_goto (t := 32) rfl rfl ?_
    refine E_istore (L2 := [some (.ref 0), some (.int 7), some (.int a2), some (.int a3), some (.int a4), some (.int 3), none, none, none]) rfl rfl ?_
    refine E_iload rfl rfl ?_
    refine E_if (t := 56) (b := true) rfl rfl (by decide) ?_
    refine E_iload rfl rfl ?_
    refine E_if (t := 71) (b := false) rfl rfl (by decide) ?_
    refine E_aload_n rfl rfl ?_
    refine E_iload rfl rfl ?_
    refine E_callV (v := some (.int (-3))) (As := [.ref 0, .int 3]) (r0 := []) (cs2 := (w0.set 48 (.inl [0, 0, 0, 1, 0, 0, 0, 0]))) rfl rfl rfl (Nat.le_of_ble_eq_true rfl) rfl rfl c32_X5_refuse (by decide) (by simp only [List.length_set]) ?_
    refine E_bipush (x := 10) rfl (by decide) ?_
    refine E_isub (z := (-13)) rfl (by decide) ?_
    exact E_iret rfl rfl, by
    refine Ef.in (md := mX6_costs) (L := [some (.ref 65), some (.int 7), some (.int a2), some (.int a3), some (.int a4), none, none, none, none, none, none, none]) rfl (Nat.le_of_ble_eq_true rfl) rfl ?_
    refine E_aload_n rfl rfl ?_
    refine E_iload_n rfl rfl ?_
    refine E_iconst (x := 0) rfl (by decide) ?_
    refine E_bipush (x := 7) rfl (by decide) ?_
    have e5 : Ev ab_Z0 1 134 [.ref 65, .int a3, .int 0, .int 7] (w0.set 48 (.inl [0, 0, 0, 1, 0, 0, 0, 0])) (some (.int 1), (w0.set 48 (.inl [0, 0, 0, 1, 0, 0, 0, 0]))) := by
      refine Ef.in (md := mX6_isFrom) (L := [some (.ref 65), some (.int a3), some (.int 0), some (.int 7)]) rfl (Nat.le_of_ble_eq_true rfl) rfl ?_
      refine E_iload_n rfl rfl ?_
      refine E_iload_n rfl rfl ?_
      refine E_ic (t := 14) (b := false) rfl rfl ((cn_lt (rfl : (a3).toInt = (a3).toInt) (by decide : (0 : Int32).toInt = 0)).trans (decide_eq_false (by omega))) ?_
      refine E_iload_n rfl rfl ?_
      refine E_iload_n rfl rfl ?_
      refine E_ic (t := 14) (b := false) rfl rfl ((cn_gt (rfl : (a3).toInt = (a3).toInt) (by decide : (7 : Int32).toInt = 7)).trans (decide_eq_false (by omega))) ?_
      refine E_iconst (x := 1) rfl (by decide) ?_
      refine E_goto (t := 15) rfl rfl ?_
      exact E_iret rfl rfl
    refine E_callV (v := some (.int 1)) (As := [.ref 65, .int a3, .int 0, .int 7]) (r0 := []) (cs2 := (w0.set 48 (.inl [0, 0, 0, 1, 0, 0, 0, 0]))) rfl rfl rfl (Nat.le_of_ble_eq_true rfl) rfl rfl e5 (by decide) rfl ?_
    refine E_if (t := 15) (b := true) rfl rfl (by decide) ?_
    refine E_aload_n rfl rfl ?_
    refine E_iload_n rfl rfl ?_
    refine E_iload_n rfl rfl ?_
    refine E_bipush (x := 40) rfl (by decide) ?_
    refine E_iload rfl rfl ?_
    refine E_if (t := 31) (b := false) rfl rfl ((cn_eq (rfl : (a4).toInt = (a4).toInt) (by decide : (0 : Int32).toInt = 0)).trans (decide_eq_false (by omega))) ?_
    refine E_iload rfl rfl ?_
    refine E_iconst (x := 1) rfl (by decide) ?_
    refine E_ic (t := 35) (b := true) rfl rfl ((cn_ne (rfl : (a4).toInt = (a4).toInt) (by decide : (1 : Int32).toInt = 1)).trans (decide_eq_true (by omega))) ?_
    refine E_iconst (x := 0) rfl (by decide) ?_
    have e28 : Ev ab_Z0 3 186 [.ref 65, .int 7, .int a2, .int 40, .int 0] (w0.set 48 (.inl [0, 0, 0, 1, 0, 0, 0, 0])) (some (.int (-3)), (w0.set 48 (.inl [0, 0, 0, 1, 0, 0, 0, 0]))) := by
      refine Ef.in (md := mX6_barsOf) (L := [some (.ref 65), some (.int 7), some (.int a2), some (.int 40), some (.int 0), none]) rfl (Nat.le_of_ble_eq_true rfl) rfl ?_
      refine E_aload_n rfl rfl ?_
      refine E_iload_n rfl rfl ?_
      refine E_callV (v := some (.int (-3))) (As := [.ref 65, .int 7]) (r0 := []) (cs2 := (w0.set 48 (.inl [0, 0, 0, 1, 0, 0, 0, 0]))) rfl rfl rfl (Nat.le_of_ble_eq_true rfl) rfl rfl c226_X6_wanted (by decide) rfl ?_
      refine E_istore (L2 := [some (.ref 65), some (.int 7), some (.int a2), some (.int 40), some (.int 0), some (.int (-3))]) rfl rfl ?_
      refine E_iload rfl rfl ?_
      refine E_if (t := 17) (b := false) rfl rfl (by decide) ?_
      refine E_iload rfl rfl ?_
      refine E_goto (t := 59) rfl rfl ?_
      exact E_iret rfl rfl
    refine E_callV (v := some (.int (-3))) (As := [.ref 65, .int 7, .int a2, .int 40, .int 0]) (r0 := []) (cs2 := (w0.set 48 (.inl [0, 0, 0, 1, 0, 0, 0, 0]))) rfl rfl rfl (Nat.le_of_ble_eq_true rfl) rfl rfl e28 (by decide) rfl ?_
    refine E_istore (L2 := [some (.ref 65), some (.int 7), some (.int a2), some (.int a3), some (.int a4), some (.int (-3)), none, none, none, none, none, none]) rfl rfl ?_
    refine E_iconst (x := 0) rfl (by decide) ?_
    refine E_istore (L2 := [some (.ref 65), some (.int 7), some (.int a2), some (.int a3), some (.int a4), some (.int (-3)), some (.int 0), none, none, none, none, none]) rfl rfl ?_
    refine E_iload rfl rfl ?_
    refine E_iload_n rfl rfl ?_
    refine E_ic (t := 80) (b := true) rfl rfl ((cn_ge (by decide : (0 : Int32).toInt = 0) (rfl : (a2).toInt = (a2).toInt)).trans (decide_eq_true (by omega))) ?_
    refine E_iload rfl rfl ?_
    refine E_if (t := 92) (b := false) rfl rfl (by decide) ?_
    refine E_aload_n rfl rfl ?_
    refine E_iload rfl rfl ?_
    refine E_callV (v := some (.int (-13))) (As := [.ref 65, .int (-3)]) (r0 := []) (cs2 := ((w0.set 48 (.inl [0, 0, 0, 1, 0, 0, 0, 0])).set 66 (.inl [0, 0, 0, 1, 0, 0, 0, 0]))) rfl rfl rfl (Nat.le_of_ble_eq_true rfl) rfl rfl c258_X6_noTen (by decide) (by simp only [List.length_set]) ?_
    exact E_iret rfl rfl, (by simp only [List.length_set]; rfl), (by simp only [List.length_set]; rfl), ((ab_szs rfl).trans ((ab_szs rfl).trans rfl)), fun _ => rfl⟩
theorem f_costs_20 (a2 a3 a4 : Int32) (ha2l : (1 : Int) ≤ a2.toInt) (ha3l : (0 : Int) ≤ a3.toInt) (ha3h : a3.toInt ≤ 7) (ha4h : a4.toInt ≤ -1) : p1_P 6 100 4 188 [.ref 0, .int 7, .int a2, .int a3, .int a4] [.ref 65, .int 7, .int a2, .int a3, .int a4] :=
  ⟨(-13), (w0.set 48 (.inl [0, 0, 0, 1, 0, 0, 0, 0])), ((w0.set 48 (.inl [0, 0, 0, 1, 0, 0, 0, 0])).set 66 (.inl [0, 0, 0, 1, 0, 0, 0, 0])), by
    refine Ef.in (md := mX5_costs) (L := [some (.ref 0), some (.int 7), some (.int a2), some (.int a3), some (.int a4), none, none, none, none]) rfl (Nat.le_of_ble_eq_true rfl) rfl ?_
    refine E_iload_n rfl rfl ?_
    have e2 : Ev ab_Z0 1 47 [.int a3] w0 (some (.int 1), w0) := by
      refine Ef.in (md := mX4_isWish) (L := [some (.int a3)]) rfl (Nat.le_of_ble_eq_true rfl) rfl ?_
      refine E_iload_n rfl rfl ?_
      refine E_if (t := 14) (b := false) rfl rfl ((cn_lt (rfl : (a3).toInt = (a3).toInt) (by decide : (0 : Int32).toInt = 0)).trans (decide_eq_false (by omega))) ?_
      refine E_iload_n rfl rfl ?_
      refine E_bipush (x := 8) rfl (by decide) ?_
      refine E_ic (t := 14) (b := false) rfl rfl ((cn_ge (rfl : (a3).toInt = (a3).toInt) (by decide : (8 : Int32).toInt = 8)).trans (decide_eq_false (by omega))) ?_
      refine E_iconst (x := 1) rfl (by decide) ?_
      refine E_goto (t := 15) rfl rfl ?_
      exact E_iret rfl rfl
    refine E_callS (v := some (.int 1)) (As := [.int a3]) (r0 := []) (cs2 := w0) rfl rfl rfl (Nat.le_of_ble_eq_true rfl) rfl e2 (by decide) rfl ?_
    refine E_if (t := 31) (b := false) rfl rfl (by decide) ?_
    refine E_aload_n rfl rfl ?_
    refine E_iload_n rfl rfl ?_
    refine E_iload_n rfl rfl ?_
    refine E_bipush (x := 40) rfl (by decide) ?_
    refine E_iload rfl rfl ?_
    have e19 : Ev ab_Z0 1 116 [.int a4] w0 (some (.int 0), w0) := by
      refine Ef.in (md := mX5_isOneOfTwo) (L := [some (.int a4)]) rfl (Nat.le_of_ble_eq_true rfl) rfl ?_
      refine E_iload_n rfl rfl ?_
      refine E_if (t := 9) (b := false) rfl rfl ((cn_eq (rfl : (a4).toInt = (a4).toInt) (by decide : (0 : Int32).toInt = 0)).trans (decide_eq_false (by omega))) ?_
      refine E_iload_n rfl rfl ?_
      refine E_iconst (x := 1) rfl (by decide) ?_
      refine E_ic (t := 13) (b := true) rfl rfl ((cn_ne (rfl : (a4).toInt = (a4).toInt) (by decide : (1 : Int32).toInt = 1)).trans (decide_eq_true (by omega))) ?_
      refine E_iconst (x := 0) rfl (by decide) ?_
      exact E_iret rfl rfl
    refine E_callS (v := some (.int 0)) (As := [.int a4]) (r0 := [.int 40, .int a2, .int 7, .ref 0]) (cs2 := w0) rfl rfl rfl (Nat.le_of_ble_eq_true rfl) rfl e19 (by decide) rfl ?_
    refine E_if (t := 24) (b := false) rfl rfl (by decide) ?_
    refine E_iconst (x := 1) rfl (by decide) ?_
    refine E_goto (t := 25) rfl rfl ?_
    have e32 : Ev ab_Z0 3 120 [.ref 0, .int 7, .int a2, .int 40, .int 1] w0 (some (.int 3), w0) := by
      refine Ef.in (md := mX5_whyNoTwos) (L := [some (.ref 0), some (.int 7), some (.int a2), some (.int 40), some (.int 1), none]) rfl (Nat.le_of_ble_eq_true rfl) rfl ?_
      refine E_aload_n rfl rfl ?_
      refine E_iload_n rfl rfl ?_
      refine E_callV (v := some (.int 3)) (As := [.ref 0, .int 7]) (r0 := []) (cs2 := w0) rfl rfl rfl (Nat.le_of_ble_eq_true rfl) rfl rfl c60_X5_whyNoRow (by decide) rfl ?_
      refine E_istore (L2 := [some (.ref 0), some (.int 7), some (.int a2), some (.int 40), some (.int 1), some (.int 3)]) rfl rfl ?_
      refine E_iload rfl rfl ?_
      refine E_if (t := 15) (b := false) rfl rfl (by decide) ?_
      refine E_iload rfl rfl ?_
      exact E_iret rfl rfl
    refine E_callV (v := some (.int 3)) (As := [.ref 0, .int 7, .int a2, .int 40, .int 1]) (r0 := []) (cs2 := w0) rfl rfl rfl (Nat.le_of_ble_eq_true rfl) rfl rfl e32 (by decide) rfl ?_
    refine E_goto (t := 32) rfl rfl ?_
    refine E_istore (L2 := [some (.ref 0), some (.int 7), some (.int a2), some (.int a3), some (.int a4), some (.int 3), none, none, none]) rfl rfl ?_
    refine E_iload rfl rfl ?_
    refine E_if (t := 56) (b := true) rfl rfl (by decide) ?_
    refine E_iload rfl rfl ?_
    refine E_if (t := 71) (b := false) rfl rfl (by decide) ?_
    refine E_aload_n rfl rfl ?_
    refine E_iload rfl rfl ?_
    refine E_callV (v := some (.int (-3))) (As := [.ref 0, .int 3]) (r0 := []) (cs2 := (w0.set 48 (.inl [0, 0, 0, 1, 0, 0, 0, 0]))) rfl rfl rfl (Nat.le_of_ble_eq_true rfl) rfl rfl c32_X5_refuse (by decide) (by simp only [List.length_set]) ?_
    refine E_bipush (x := 10) rfl (by decide) ?_
    refine E_isub (z := (-13)) rfl (by decide) ?_
    exact E_iret rfl rfl, by
    refine Ef.in (md := mX6_costs) (L := [some (.ref 65), some (.int 7), some (.int a2), some (.int a3), some (.int a4), none, none, none, none, none, none, none]) rfl (Nat.le_of_ble_eq_true rfl) rfl ?_
    refine E_aload_n rfl rfl ?_
    refine E_iload_n rfl rfl ?_
    refine E_iconst (x := 0) rfl (by decide) ?_
    refine E_bipush (x := 7) rfl (by decide) ?_
    have e5 : Ev ab_Z0 1 134 [.ref 65, .int a3, .int 0, .int 7] (w0.set 48 (.inl [0, 0, 0, 1, 0, 0, 0, 0])) (some (.int 1), (w0.set 48 (.inl [0, 0, 0, 1, 0, 0, 0, 0]))) := by
      refine Ef.in (md := mX6_isFrom) (L := [some (.ref 65), some (.int a3), some (.int 0), some (.int 7)]) rfl (Nat.le_of_ble_eq_true rfl) rfl ?_
      refine E_iload_n rfl rfl ?_
      refine E_iload_n rfl rfl ?_
      refine E_ic (t := 14) (b := false) rfl rfl ((cn_lt (rfl : (a3).toInt = (a3).toInt) (by decide : (0 : Int32).toInt = 0)).trans (decide_eq_false (by omega))) ?_
      refine E_iload_n rfl rfl ?_
      refine E_iload_n rfl rfl ?_
      refine E_ic (t := 14) (b := false) rfl rfl ((cn_gt (rfl : (a3).toInt = (a3).toInt) (by decide : (7 : Int32).toInt = 7)).trans (decide_eq_false (by omega))) ?_
      refine E_iconst (x := 1) rfl (by decide) ?_
      refine E_goto (t := 15) rfl rfl ?_
      exact E_iret rfl rfl
    refine E_callV (v := some (.int 1)) (As := [.ref 65, .int a3, .int 0, .int 7]) (r0 := []) (cs2 := (w0.set 48 (.inl [0, 0, 0, 1, 0, 0, 0, 0]))) rfl rfl rfl (Nat.le_of_ble_eq_true rfl) rfl rfl e5 (by decide) rfl ?_
    refine E_if (t := 15) (b := true) rfl rfl (by decide) ?_
    refine E_aload_n rfl rfl ?_
    refine E_iload_n rfl rfl ?_
    refine E_iload_n rfl rfl ?_
    refine E_bipush (x := 40) rfl (by decide) ?_
    refine E_iload rfl rfl ?_
    refine E_if (t := 31) (b := false) rfl rfl ((cn_eq (rfl : (a4).toInt = (a4).toInt) (by decide : (0 : Int32).toInt = 0)).trans (decide_eq_false (by omega))) ?_
    refine E_iload rfl rfl ?_
    refine E_iconst (x := 1) rfl (by decide) ?_
    refine E_ic (t := 35) (b := true) rfl rfl ((cn_ne (rfl : (a4).toInt = (a4).toInt) (by decide : (1 : Int32).toInt = 1)).trans (decide_eq_true (by omega))) ?_
    refine E_iconst (x := 0) rfl (by decide) ?_
    have e28 : Ev ab_Z0 3 186 [.ref 65, .int 7, .int a2, .int 40, .int 0] (w0.set 48 (.inl [0, 0, 0, 1, 0, 0, 0, 0])) (some (.int (-3)), (w0.set 48 (.inl [0, 0, 0, 1, 0, 0, 0, 0]))) := by
      refine Ef.in (md := mX6_barsOf) (L := [some (.ref 65), some (.int 7), some (.int a2), some (.int 40), some (.int 0), none]) rfl (Nat.le_of_ble_eq_true rfl) rfl ?_
      refine E_aload_n rfl rfl ?_
      refine E_iload_n rfl rfl ?_
      refine E_callV (v := some (.int (-3))) (As := [.ref 65, .int 7]) (r0 := []) (cs2 := (w0.set 48 (.inl [0, 0, 0, 1, 0, 0, 0, 0]))) rfl rfl rfl (Nat.le_of_ble_eq_true rfl) rfl rfl c226_X6_wanted (by decide) rfl ?_
      refine E_istore (L2 := [some (.ref 65), some (.int 7), some (.int a2), some (.int 40), some (.int 0), some (.int (-3))]) rfl rfl ?_
      refine E_iload rfl rfl ?_
      refine E_if (t := 17) (b := false) rfl rfl (by decide) ?_
      refine E_iload rfl rfl ?_
      refine E_goto (t := 59) rfl rfl ?_
      exact E_iret rfl rfl
    refine E_callV (v := some (.int (-3))) (As := [.ref 65, .int 7, .int a2, .int 40, .int 0]) (r0 := []) (cs2 := (w0.set 48 (.inl [0, 0, 0, 1, 0, 0, 0, 0]))) rfl rfl rfl (Nat.le_of_ble_eq_true rfl) rfl rfl e28 (by decide) rfl ?_
    refine E_istore (L2 := [some (.ref 65), some (.int 7), some (.int a2), some (.int a3), some (.int a4), some (.int (-3)), none, none, none, none, none, none]) rfl rfl ?_
    refine E_iconst (x := 0) rfl (by decide) ?_
    refine E_istore (L2 := [some (.ref 65), some (.int 7), some (.int a2), some (.int a3), some (.int a4), some (.int (-3)), some (.int 0), none, none, none, none, none]) rfl rfl ?_
    refine E_iload rfl rfl ?_
    refine E_iload_n rfl rfl ?_
    refine E_ic (t := 80) (b := false) rfl rfl ((cn_ge (by decide : (0 : Int32).toInt = 0) (rfl : (a2).toInt = (a2).toInt)).trans (decide_eq_false (by omega))) ?_
    refine E_iload rfl rfl ?_
    refine E_if (t := 80) (b := true) rfl rfl (by decide) ?_
    refine E_iload rfl rfl ?_
    refine E_if (t := 92) (b := false) rfl rfl (by decide) ?_
    refine E_aload_n rfl rfl ?_
    refine E_iload rfl rfl ?_
    refine E_callV (v := some (.int (-13))) (As := [.ref 65, .int (-3)]) (r0 := []) (cs2 := ((w0.set 48 (.inl [0, 0, 0, 1, 0, 0, 0, 0])).set 66 (.inl [0, 0, 0, 1, 0, 0, 0, 0]))) rfl rfl rfl (Nat.le_of_ble_eq_true rfl) rfl rfl c258_X6_noTen (by decide) (by simp only [List.length_set]) ?_
    exact E_iret rfl rfl, (by simp only [List.length_set]; rfl), (by simp only [List.length_set]; rfl), ((ab_szs rfl).trans ((ab_szs rfl).trans rfl)), fun _ => rfl⟩
theorem f_costs_21 (a1 a2 a3 a4 : Int32) (ha1l : (8 : Int) ≤ a1.toInt) (ha2h : a2.toInt ≤ 0) (ha3l : (0 : Int) ≤ a3.toInt) (ha3h : a3.toInt ≤ 7) (ha4h : a4.toInt ≤ -1) : p1_P 6 100 4 188 [.ref 0, .int a1, .int a2, .int a3, .int a4] [.ref 65, .int a1, .int a2, .int a3, .int a4] :=
  ⟨(-11), (w0.set 48 (.inl [0, 1, 0, 0, 0, 0, 0, 0])), ((w0.set 48 (.inl [0, 1, 0, 0, 0, 0, 0, 0])).set 66 (.inl [0, 1, 0, 0, 0, 0, 0, 0])), by
    refine Ef.in (md := mX5_costs) (L := [some (.ref 0), some (.int a1), some (.int a2), some (.int a3), some (.int a4), none, none, none, none]) rfl (Nat.le_of_ble_eq_true rfl) rfl ?_
    refine E_iload_n rfl rfl ?_
    have e2 : Ev ab_Z0 1 47 [.int a3] w0 (some (.int 1), w0) := by
      refine Ef.in (md := mX4_isWish) (L := [some (.int a3)]) rfl (Nat.le_of_ble_eq_true rfl) rfl ?_
      refine E_iload_n rfl rfl ?_
      refine E_if (t := 14) (b := false) rfl rfl ((cn_lt (rfl : (a3).toInt = (a3).toInt) (by decide : (0 : Int32).toInt = 0)).trans (decide_eq_false (by omega))) ?_
      refine E_iload_n rfl rfl ?_
      refine E_bipush (x := 8) rfl (by decide) ?_
      refine E_ic (t := 14) (b := false) rfl rfl ((cn_ge (rfl : (a3).toInt = (a3).toInt) (by decide : (8 : Int32).toInt = 8)).trans (decide_eq_false (by omega))) ?_
      refine E_iconst (x := 1) rfl (by decide) ?_
      refine E_goto (t := 15) rfl rfl ?_
      exact E_iret rfl rfl
    refine E_callS (v := some (.int 1)) (As := [.int a3]) (r0 := []) (cs2 := w0) rfl rfl rfl (Nat.le_of_ble_eq_true rfl) rfl e2 (by decide) rfl ?_
    refine E_if (t := 31) (b := false) rfl rfl (by decide) ?_
    refine E_aload_n rfl rfl ?_
    refine E_iload_n rfl rfl ?_
    refine E_iload_n rfl rfl ?_
    refine E_bipush (x := 40) rfl (by decide) ?_
    refine E_iload rfl rfl ?_
    have e19 : Ev ab_Z0 1 116 [.int a4] w0 (some (.int 0), w0) := by
      refine Ef.in (md := mX5_isOneOfTwo) (L := [some (.int a4)]) rfl (Nat.le_of_ble_eq_true rfl) rfl ?_
      refine E_iload_n rfl rfl ?_
      refine E_if (t := 9) (b := false) rfl rfl ((cn_eq (rfl : (a4).toInt = (a4).toInt) (by decide : (0 : Int32).toInt = 0)).trans (decide_eq_false (by omega))) ?_
      refine E_iload_n rfl rfl ?_
      refine E_iconst (x := 1) rfl (by decide) ?_
      refine E_ic (t := 13) (b := true) rfl rfl ((cn_ne (rfl : (a4).toInt = (a4).toInt) (by decide : (1 : Int32).toInt = 1)).trans (decide_eq_true (by omega))) ?_
      refine E_iconst (x := 0) rfl (by decide) ?_
      exact E_iret rfl rfl
    refine E_callS (v := some (.int 0)) (As := [.int a4]) (r0 := [.int 40, .int a2, .int a1, .ref 0]) (cs2 := w0) rfl rfl rfl (Nat.le_of_ble_eq_true rfl) rfl e19 (by decide) rfl ?_
    refine E_if (t := 24) (b := false) rfl rfl (by decide) ?_
    refine E_iconst (x := 1) rfl (by decide) ?_
    refine E_goto (t := 25) rfl rfl ?_
    have e32 : Ev ab_Z0 3 120 [.ref 0, .int a1, .int a2, .int 40, .int 1] w0 (some (.int 1), w0) := by
      refine Ef.in (md := mX5_whyNoTwos) (L := [some (.ref 0), some (.int a1), some (.int a2), some (.int 40), some (.int 1), none]) rfl (Nat.le_of_ble_eq_true rfl) rfl ?_
      refine E_aload_n rfl rfl ?_
      refine E_iload_n rfl rfl ?_
      have e3 : Ev ab_Z0 2 119 [.ref 0, .int a1] w0 (some (.int 1), w0) := by
        refine Ef.in (md := mX5_whyNoRow) (L := [some (.ref 0), some (.int a1)]) rfl (Nat.le_of_ble_eq_true rfl) rfl ?_
        refine E_iload_n rfl rfl ?_
        have e2 : Ev ab_Z0 1 117 [.int a1] w0 (some (.int 0), w0) := by
          refine Ef.in (md := mX5_isShelf) (L := [some (.int a1)]) rfl (Nat.le_of_ble_eq_true rfl) rfl ?_
          refine E_iload_n rfl rfl ?_
          refine E_if (t := 14) (b := false) rfl rfl ((cn_lt (rfl : (a1).toInt = (a1).toInt) (by decide : (0 : Int32).toInt = 0)).trans (decide_eq_false (by omega))) ?_
          refine E_iload_n rfl rfl ?_
          refine E_bipush (x := 8) rfl (by decide) ?_
          refine E_ic (t := 14) (b := true) rfl rfl ((cn_ge (rfl : (a1).toInt = (a1).toInt) (by decide : (8 : Int32).toInt = 8)).trans (decide_eq_true (by omega))) ?_
          refine E_iconst (x := 0) rfl (by decide) ?_
          exact E_iret rfl rfl
        refine E_callS (v := some (.int 0)) (As := [.int a1]) (r0 := []) (cs2 := w0) rfl rfl rfl (Nat.le_of_ble_eq_true rfl) rfl e2 (by decide) rfl ?_
        refine E_if (t := 9) (b := false) rfl rfl (by decide) ?_
        refine E_iconst (x := 1) rfl (by decide) ?_
        exact E_iret rfl rfl
      refine E_callV (v := some (.int 1)) (As := [.ref 0, .int a1]) (r0 := []) (cs2 := w0) rfl rfl rfl (Nat.le_of_ble_eq_true rfl) rfl rfl e3 (by decide) rfl ?_
      refine E_istore (L2 := [some (.ref 0), some (.int a1), some (.int a2), some (.int 40), some (.int 1), some (.int 1)]) rfl rfl ?_
      refine E_iload rfl rfl ?_
      refine E_if (t := 15) (b := false) rfl rfl (by decide) ?_
      refine E_iload rfl rfl ?_
      exact E_iret rfl rfl
    refine E_callV (v := some (.int 1)) (As := [.ref 0, .int a1, .int a2, .int 40, .int 1]) (r0 := []) (cs2 := w0) rfl rfl rfl (Nat.le_of_ble_eq_true rfl) rfl rfl e32 (by decide) rfl ?_
    refine E_goto (t := 32) rfl rfl ?_
    refine E_istore (L2 := [some (.ref 0), some (.int a1), some (.int a2), some (.int a3), some (.int a4), some (.int 1), none, none, none]) rfl rfl ?_
    refine E_iload rfl rfl ?_
    refine E_if (t := 56) (b := true) rfl rfl (by decide) ?_
    refine E_iload rfl rfl ?_
    refine E_if (t := 71) (b := false) rfl rfl (by decide) ?_
    refine E_aload_n rfl rfl ?_
    refine E_iload rfl rfl ?_
    refine E_callV (v := some (.int (-1))) (As := [.ref 0, .int 1]) (r0 := []) (cs2 := (w0.set 48 (.inl [0, 1, 0, 0, 0, 0, 0, 0]))) rfl rfl rfl (Nat.le_of_ble_eq_true rfl) rfl rfl c1_X5_refuse (by decide) (by simp only [List.length_set]) ?_
    refine E_bipush (x := 10) rfl (by decide) ?_
    refine E_isub (z := (-11)) rfl (by decide) ?_
    exact E_iret rfl rfl, by
    refine Ef.in (md := mX6_costs) (L := [some (.ref 65), some (.int a1), some (.int a2), some (.int a3), some (.int a4), none, none, none, none, none, none, none]) rfl (Nat.le_of_ble_eq_true rfl) rfl ?_
    refine E_aload_n rfl rfl ?_
    refine E_iload_n rfl rfl ?_
    refine E_iconst (x := 0) rfl (by decide) ?_
    refine E_bipush (x := 7) rfl (by decide) ?_
    have e5 : Ev ab_Z0 1 134 [.ref 65, .int a3, .int 0, .int 7] (w0.set 48 (.inl [0, 1, 0, 0, 0, 0, 0, 0])) (some (.int 1), (w0.set 48 (.inl [0, 1, 0, 0, 0, 0, 0, 0]))) := by
      refine Ef.in (md := mX6_isFrom) (L := [some (.ref 65), some (.int a3), some (.int 0), some (.int 7)]) rfl (Nat.le_of_ble_eq_true rfl) rfl ?_
      refine E_iload_n rfl rfl ?_
      refine E_iload_n rfl rfl ?_
      refine E_ic (t := 14) (b := false) rfl rfl ((cn_lt (rfl : (a3).toInt = (a3).toInt) (by decide : (0 : Int32).toInt = 0)).trans (decide_eq_false (by omega))) ?_
      refine E_iload_n rfl rfl ?_
      refine E_iload_n rfl rfl ?_
      refine E_ic (t := 14) (b := false) rfl rfl ((cn_gt (rfl : (a3).toInt = (a3).toInt) (by decide : (7 : Int32).toInt = 7)).trans (decide_eq_false (by omega))) ?_
      refine E_iconst (x := 1) rfl (by decide) ?_
      refine E_goto (t := 15) rfl rfl ?_
      exact E_iret rfl rfl
    refine E_callV (v := some (.int 1)) (As := [.ref 65, .int a3, .int 0, .int 7]) (r0 := []) (cs2 := (w0.set 48 (.inl [0, 1, 0, 0, 0, 0, 0, 0]))) rfl rfl rfl (Nat.le_of_ble_eq_true rfl) rfl rfl e5 (by decide) rfl ?_
    refine E_if (t := 15) (b := true) rfl rfl (by decide) ?_
    refine E_aload_n rfl rfl ?_
    refine E_iload_n rfl rfl ?_
    refine E_iload_n rfl rfl ?_
    refine E_bipush (x := 40) rfl (by decide) ?_
    refine E_iload rfl rfl ?_
    refine E_if (t := 31) (b := false) rfl rfl ((cn_eq (rfl : (a4).toInt = (a4).toInt) (by decide : (0 : Int32).toInt = 0)).trans (decide_eq_false (by omega))) ?_
    refine E_iload rfl rfl ?_
    refine E_iconst (x := 1) rfl (by decide) ?_
    refine E_ic (t := 35) (b := true) rfl rfl ((cn_ne (rfl : (a4).toInt = (a4).toInt) (by decide : (1 : Int32).toInt = 1)).trans (decide_eq_true (by omega))) ?_
    refine E_iconst (x := 0) rfl (by decide) ?_
    have e28 : Ev ab_Z0 3 186 [.ref 65, .int a1, .int a2, .int 40, .int 0] (w0.set 48 (.inl [0, 1, 0, 0, 0, 0, 0, 0])) (some (.int (-1)), (w0.set 48 (.inl [0, 1, 0, 0, 0, 0, 0, 0]))) := by
      refine Ef.in (md := mX6_barsOf) (L := [some (.ref 65), some (.int a1), some (.int a2), some (.int 40), some (.int 0), none]) rfl (Nat.le_of_ble_eq_true rfl) rfl ?_
      refine E_aload_n rfl rfl ?_
      refine E_iload_n rfl rfl ?_
      have e3 : Ev ab_Z0 2 142 [.ref 65, .int a1] (w0.set 48 (.inl [0, 1, 0, 0, 0, 0, 0, 0])) (some (.int (-1)), (w0.set 48 (.inl [0, 1, 0, 0, 0, 0, 0, 0]))) := by
        refine Ef.in (md := mX6_wanted) (L := [some (.ref 65), some (.int a1)]) rfl (Nat.le_of_ble_eq_true rfl) rfl ?_
        refine E_aload_n rfl rfl ?_
        refine E_iload_n rfl rfl ?_
        have e3 : Ev ab_Z0 1 131 [.ref 65, .int a1] (w0.set 48 (.inl [0, 1, 0, 0, 0, 0, 0, 0])) (some (.int 0), (w0.set 48 (.inl [0, 1, 0, 0, 0, 0, 0, 0]))) := by
          refine Ef.in (md := mX6_isShelf) (L := [some (.ref 65), some (.int a1)]) rfl (Nat.le_of_ble_eq_true rfl) rfl ?_
          refine E_iload_n rfl rfl ?_
          refine E_if (t := 14) (b := false) rfl rfl ((cn_lt (rfl : (a1).toInt = (a1).toInt) (by decide : (0 : Int32).toInt = 0)).trans (decide_eq_false (by omega))) ?_
          refine E_iload_n rfl rfl ?_
          refine E_bipush (x := 8) rfl (by decide) ?_
          refine E_ic (t := 14) (b := true) rfl rfl ((cn_ge (rfl : (a1).toInt = (a1).toInt) (by decide : (8 : Int32).toInt = 8)).trans (decide_eq_true (by omega))) ?_
          refine E_iconst (x := 0) rfl (by decide) ?_
          exact E_iret rfl rfl
        refine E_callV (v := some (.int 0)) (As := [.ref 65, .int a1]) (r0 := []) (cs2 := (w0.set 48 (.inl [0, 1, 0, 0, 0, 0, 0, 0]))) rfl rfl rfl (Nat.le_of_ble_eq_true rfl) rfl rfl e3 (by decide) rfl ?_
        refine E_if (t := 12) (b := false) rfl rfl (by decide) ?_
        refine E_iconst (x := (-1)) rfl (by decide) ?_
        refine E_goto (t := 42) rfl rfl ?_
        exact E_iret rfl rfl
      refine E_callV (v := some (.int (-1))) (As := [.ref 65, .int a1]) (r0 := []) (cs2 := (w0.set 48 (.inl [0, 1, 0, 0, 0, 0, 0, 0]))) rfl rfl rfl (Nat.le_of_ble_eq_true rfl) rfl rfl e3 (by decide) rfl ?_
      refine E_istore (L2 := [some (.ref 65), some (.int a1), some (.int a2), some (.int 40), some (.int 0), some (.int (-1))]) rfl rfl ?_
      refine E_iload rfl rfl ?_
      refine E_if (t := 17) (b := false) rfl rfl (by decide) ?_
      refine E_iload rfl rfl ?_
      refine E_goto (t := 59) rfl rfl ?_
      exact E_iret rfl rfl
    refine E_callV (v := some (.int (-1))) (As := [.ref 65, .int a1, .int a2, .int 40, .int 0]) (r0 := []) (cs2 := (w0.set 48 (.inl [0, 1, 0, 0, 0, 0, 0, 0]))) rfl rfl rfl (Nat.le_of_ble_eq_true rfl) rfl rfl e28 (by decide) rfl ?_
    refine E_istore (L2 := [some (.ref 65), some (.int a1), some (.int a2), some (.int a3), some (.int a4), some (.int (-1)), none, none, none, none, none, none]) rfl rfl ?_
    refine E_iconst (x := 0) rfl (by decide) ?_
    refine E_istore (L2 := [some (.ref 65), some (.int a1), some (.int a2), some (.int a3), some (.int a4), some (.int (-1)), some (.int 0), none, none, none, none, none]) rfl rfl ?_
    refine E_iload rfl rfl ?_
    refine E_iload_n rfl rfl ?_
    refine E_ic (t := 80) (b := true) rfl rfl ((cn_ge (by decide : (0 : Int32).toInt = 0) (rfl : (a2).toInt = (a2).toInt)).trans (decide_eq_true (by omega))) ?_
    refine E_iload rfl rfl ?_
    refine E_if (t := 92) (b := false) rfl rfl (by decide) ?_
    refine E_aload_n rfl rfl ?_
    refine E_iload rfl rfl ?_
    refine E_callV (v := some (.int (-11))) (As := [.ref 65, .int (-1)]) (r0 := []) (cs2 := ((w0.set 48 (.inl [0, 1, 0, 0, 0, 0, 0, 0])).set 66 (.inl [0, 1, 0, 0, 0, 0, 0, 0]))) rfl rfl rfl (Nat.le_of_ble_eq_true rfl) rfl rfl c247_X6_noTen (by decide) (by simp only [List.length_set]) ?_
    exact E_iret rfl rfl, (by simp only [List.length_set]; rfl), (by simp only [List.length_set]; rfl), ((ab_szs rfl).trans ((ab_szs rfl).trans rfl)), fun _ => rfl⟩
theorem f_costs_22 (a1 a2 a3 a4 : Int32) (ha1l : (8 : Int) ≤ a1.toInt) (ha2l : (1 : Int) ≤ a2.toInt) (ha3l : (0 : Int) ≤ a3.toInt) (ha3h : a3.toInt ≤ 7) (ha4h : a4.toInt ≤ -1) : p1_P 6 100 4 188 [.ref 0, .int a1, .int a2, .int a3, .int a4] [.ref 65, .int a1, .int a2, .int a3, .int a4] :=
  ⟨(-11), (w0.set 48 (.inl [0, 1, 0, 0, 0, 0, 0, 0])), ((w0.set 48 (.inl [0, 1, 0, 0, 0, 0, 0, 0])).set 66 (.inl [0, 1, 0, 0, 0, 0, 0, 0])), by
    refine Ef.in (md := mX5_costs) (L := [some (.ref 0), some (.int a1), some (.int a2), some (.int a3), some (.int a4), none, none, none, none]) rfl (Nat.le_of_ble_eq_true rfl) rfl ?_
    refine E_iload_n rfl rfl ?_
    have e2 : Ev ab_Z0 1 47 [.int a3] w0 (some (.int 1), w0) := by
      refine Ef.in (md := mX4_isWish) (L := [some (.int a3)]) rfl (Nat.le_of_ble_eq_true rfl) rfl ?_
      refine E_iload_n rfl rfl ?_
      refine E_if (t := 14) (b := false) rfl rfl ((cn_lt (rfl : (a3).toInt = (a3).toInt) (by decide : (0 : Int32).toInt = 0)).trans (decide_eq_false (by omega))) ?_
      refine E_iload_n rfl rfl ?_
      refine E_bipush (x := 8) rfl (by decide) ?_
      refine E_ic (t := 14) (b := false) rfl rfl ((cn_ge (rfl : (a3).toInt = (a3).toInt) (by decide : (8 : Int32).toInt = 8)).trans (decide_eq_false (by omega))) ?_
      refine E_iconst (x := 1) rfl (by decide) ?_
      refine E_goto (t := 15) rfl rfl ?_
      exact E_iret rfl rfl
    refine E_callS (v := some (.int 1)) (As := [.int a3]) (r0 := []) (cs2 := w0) rfl rfl rfl (Nat.le_of_ble_eq_true rfl) rfl e2 (by decide) rfl ?_
    refine E_if (t := 31) (b := false) rfl rfl (by decide) ?_
    refine E_aload_n rfl rfl ?_
    refine E_iload_n rfl rfl ?_
    refine E_iload_n rfl rfl ?_
    refine E_bipush (x := 40) rfl (by decide) ?_
    refine E_iload rfl rfl ?_
    have e19 : Ev ab_Z0 1 116 [.int a4] w0 (some (.int 0), w0) := by
      refine Ef.in (md := mX5_isOneOfTwo) (L := [some (.int a4)]) rfl (Nat.le_of_ble_eq_true rfl) rfl ?_
      refine E_iload_n rfl rfl ?_
      refine E_if (t := 9) (b := false) rfl rfl ((cn_eq (rfl : (a4).toInt = (a4).toInt) (by decide : (0 : Int32).toInt = 0)).trans (decide_eq_false (by omega))) ?_
      refine E_iload_n rfl rfl ?_
      refine E_iconst (x := 1) rfl (by decide) ?_
      refine E_ic (t := 13) (b := true) rfl rfl ((cn_ne (rfl : (a4).toInt = (a4).toInt) (by decide : (1 : Int32).toInt = 1)).trans (decide_eq_true (by omega))) ?_
      refine E_iconst (x := 0) rfl (by decide) ?_
      exact E_iret rfl rfl
    refine E_callS (v := some (.int 0)) (As := [.int a4]) (r0 := [.int 40, .int a2, .int a1, .ref 0]) (cs2 := w0) rfl rfl rfl (Nat.le_of_ble_eq_true rfl) rfl e19 (by decide) rfl ?_
    refine E_if (t := 24) (b := false) rfl rfl (by decide) ?_
    refine E_iconst (x := 1) rfl (by decide) ?_
    refine E_goto (t := 25) rfl rfl ?_
    have e32 : Ev ab_Z0 3 120 [.ref 0, .int a1, .int a2, .int 40, .int 1] w0 (some (.int 1), w0) := by
      refine Ef.in (md := mX5_whyNoTwos) (L := [some (.ref 0), some (.int a1), some (.int a2), some (.int 40), some (.int 1), none]) rfl (Nat.le_of_ble_eq_true rfl) rfl ?_
      refine E_aload_n rfl rfl ?_
      refine E_iload_n rfl rfl ?_
      have e3 : Ev ab_Z0 2 119 [.ref 0, .int a1] w0 (some (.int 1), w0) := by
        refine Ef.in (md := mX5_whyNoRow) (L := [some (.ref 0), some (.int a1)]) rfl (Nat.le_of_ble_eq_true rfl) rfl ?_
        refine E_iload_n rfl rfl ?_
        have e2 : Ev ab_Z0 1 117 [.int a1] w0 (some (.int 0), w0) := by
          refine Ef.in (md := mX5_isShelf) (L := [some (.int a1)]) rfl (Nat.le_of_ble_eq_true rfl) rfl ?_
          refine E_iload_n rfl rfl ?_
          refine E_if (t := 14) (b := false) rfl rfl ((cn_lt (rfl : (a1).toInt = (a1).toInt) (by decide : (0 : Int32).toInt = 0)).trans (decide_eq_false (by omega))) ?_
          refine E_iload_n rfl rfl ?_
          refine E_bipush (x := 8) rfl (by decide) ?_
          refine E_ic (t := 14) (b := true) rfl rfl ((cn_ge (rfl : (a1).toInt = (a1).toInt) (by decide : (8 : Int32).toInt = 8)).trans (decide_eq_true (by omega))) ?_
          refine E_iconst (x := 0) rfl (by decide) ?_
          exact E_iret rfl rfl
        refine E_callS (v := some (.int 0)) (As := [.int a1]) (r0 := []) (cs2 := w0) rfl rfl rfl (Nat.le_of_ble_eq_true rfl) rfl e2 (by decide) rfl ?_
        refine E_if (t := 9) (b := false) rfl rfl (by decide) ?_
        refine E_iconst (x := 1) rfl (by decide) ?_
        exact E_iret rfl rfl
      refine E_callV (v := some (.int 1)) (As := [.ref 0, .int a1]) (r0 := []) (cs2 := w0) rfl rfl rfl (Nat.le_of_ble_eq_true rfl) rfl rfl e3 (by decide) rfl ?_
      refine E_istore (L2 := [some (.ref 0), some (.int a1), some (.int a2), some (.int 40), some (.int 1), some (.int 1)]) rfl rfl ?_
      refine E_iload rfl rfl ?_
      refine E_if (t := 15) (b := false) rfl rfl (by decide) ?_
      refine E_iload rfl rfl ?_
      exact E_iret rfl rfl
    refine E_callV (v := some (.int 1)) (As := [.ref 0, .int a1, .int a2, .int 40, .int 1]) (r0 := []) (cs2 := w0) rfl rfl rfl (Nat.le_of_ble_eq_true rfl) rfl rfl e32 (by decide) rfl ?_
    refine E_goto (t := 32) rfl rfl ?_
    refine E_istore (L2 := [some (.ref 0), some (.int a1), some (.int a2), some (.int a3), some (.int a4), some (.int 1), none, none, none]) rfl rfl ?_
    refine E_iload rfl rfl ?_
    refine E_if (t := 56) (b := true) rfl rfl (by decide) ?_
    refine E_iload rfl rfl ?_
    refine E_if (t := 71) (b := false) rfl rfl (by decide) ?_
    refine E_aload_n rfl rfl ?_
    refine E_iload rfl rfl ?_
    refine E_callV (v := some (.int (-1))) (As := [.ref 0, .int 1]) (r0 := []) (cs2 := (w0.set 48 (.inl [0, 1, 0, 0, 0, 0, 0, 0]))) rfl rfl rfl (Nat.le_of_ble_eq_true rfl) rfl rfl c1_X5_refuse (by decide) (by simp only [List.length_set]) ?_
    refine E_bipush (x := 10) rfl (by decide) ?_
    refine E_isub (z := (-11)) rfl (by decide) ?_
    exact E_iret rfl rfl, by
    refine Ef.in (md := mX6_costs) (L := [some (.ref 65), some (.int a1), some (.int a2), some (.int a3), some (.int a4), none, none, none, none, none, none, none]) rfl (Nat.le_of_ble_eq_true rfl) rfl ?_
    refine E_aload_n rfl rfl ?_
    refine E_iload_n rfl rfl ?_
    refine E_iconst (x := 0) rfl (by decide) ?_
    refine E_bipush (x := 7) rfl (by decide) ?_
    have e5 : Ev ab_Z0 1 134 [.ref 65, .int a3, .int 0, .int 7] (w0.set 48 (.inl [0, 1, 0, 0, 0, 0, 0, 0])) (some (.int 1), (w0.set 48 (.inl [0, 1, 0, 0, 0, 0, 0, 0]))) := by
      refine Ef.in (md := mX6_isFrom) (L := [some (.ref 65), some (.int a3), some (.int 0), some (.int 7)]) rfl (Nat.le_of_ble_eq_true rfl) rfl ?_
      refine E_iload_n rfl rfl ?_
      refine E_iload_n rfl rfl ?_
      refine E_ic (t := 14) (b := false) rfl rfl ((cn_lt (rfl : (a3).toInt = (a3).toInt) (by decide : (0 : Int32).toInt = 0)).trans (decide_eq_false (by omega))) ?_
      refine E_iload_n rfl rfl ?_
      refine E_iload_n rfl rfl ?_
      refine E_ic (t := 14) (b := false) rfl rfl ((cn_gt (rfl : (a3).toInt = (a3).toInt) (by decide : (7 : Int32).toInt = 7)).trans (decide_eq_false (by omega))) ?_
      refine E_iconst (x := 1) rfl (by decide) ?_
      refine E_goto (t := 15) rfl rfl ?_
      exact E_iret rfl rfl
    refine E_callV (v := some (.int 1)) (As := [.ref 65, .int a3, .int 0, .int 7]) (r0 := []) (cs2 := (w0.set 48 (.inl [0, 1, 0, 0, 0, 0, 0, 0]))) rfl rfl rfl (Nat.le_of_ble_eq_true rfl) rfl rfl e5 (by decide) rfl ?_
    refine E_if (t := 15) (b := true) rfl rfl (by decide) ?_
    refine E_aload_n rfl rfl ?_
    refine E_iload_n rfl rfl ?_
    refine E_iload_n rfl rfl ?_
    refine E_bipush (x := 40) rfl (by decide) ?_
    refine E_iload rfl rfl ?_
    refine E_if (t := 31) (b := false) rfl rfl ((cn_eq (rfl : (a4).toInt = (a4).toInt) (by decide : (0 : Int32).toInt = 0)).trans (decide_eq_false (by omega))) ?_
    refine E_iload rfl rfl ?_
    refine E_iconst (x := 1) rfl (by decide) ?_
    refine E_ic (t := 35) (b := true) rfl rfl ((cn_ne (rfl : (a4).toInt = (a4).toInt) (by decide : (1 : Int32).toInt = 1)).trans (decide_eq_true (by omega))) ?_
    refine E_iconst (x := 0) rfl (by decide) ?_
    have e28 : Ev ab_Z0 3 186 [.ref 65, .int a1, .int a2, .int 40, .int 0] (w0.set 48 (.inl [0, 1, 0, 0, 0, 0, 0, 0])) (some (.int (-1)), (w0.set 48 (.inl [0, 1, 0, 0, 0, 0, 0, 0]))) := by
      refine Ef.in (md := mX6_barsOf) (L := [some (.ref 65), some (.int a1), some (.int a2), some (.int 40), some (.int 0), none]) rfl (Nat.le_of_ble_eq_true rfl) rfl ?_
      refine E_aload_n rfl rfl ?_
      refine E_iload_n rfl rfl ?_
      have e3 : Ev ab_Z0 2 142 [.ref 65, .int a1] (w0.set 48 (.inl [0, 1, 0, 0, 0, 0, 0, 0])) (some (.int (-1)), (w0.set 48 (.inl [0, 1, 0, 0, 0, 0, 0, 0]))) := by
        refine Ef.in (md := mX6_wanted) (L := [some (.ref 65), some (.int a1)]) rfl (Nat.le_of_ble_eq_true rfl) rfl ?_
        refine E_aload_n rfl rfl ?_
        refine E_iload_n rfl rfl ?_
        have e3 : Ev ab_Z0 1 131 [.ref 65, .int a1] (w0.set 48 (.inl [0, 1, 0, 0, 0, 0, 0, 0])) (some (.int 0), (w0.set 48 (.inl [0, 1, 0, 0, 0, 0, 0, 0]))) := by
          refine Ef.in (md := mX6_isShelf) (L := [some (.ref 65), some (.int a1)]) rfl (Nat.le_of_ble_eq_true rfl) rfl ?_
          refine E_iload_n rfl rfl ?_
          refine E_if (t := 14) (b := false) rfl rfl ((cn_lt (rfl : (a1).toInt = (a1).toInt) (by decide : (0 : Int32).toInt = 0)).trans (decide_eq_false (by omega))) ?_
          refine E_iload_n rfl rfl ?_
          refine E_bipush (x := 8) rfl (by decide) ?_
          refine E_ic (t := 14) (b := true) rfl rfl ((cn_ge (rfl : (a1).toInt = (a1).toInt) (by decide : (8 : Int32).toInt = 8)).trans (decide_eq_true (by omega))) ?_
          refine E_iconst (x := 0) rfl (by decide) ?_
          exact E_iret rfl rfl
        refine E_callV (v := some (.int 0)) (As := [.ref 65, .int a1]) (r0 := []) (cs2 := (w0.set 48 (.inl [0, 1, 0, 0, 0, 0, 0, 0]))) rfl rfl rfl (Nat.le_of_ble_eq_true rfl) rfl rfl e3 (by decide) rfl ?_
        refine E_if (t := 12) (b := false) rfl rfl (by decide) ?_
        refine E_iconst (x := (-1)) rfl (by decide) ?_
        refine E_goto (t := 42) rfl rfl ?_
        exact E_iret rfl rfl
      refine E_callV (v := some (.int (-1))) (As := [.ref 65, .int a1]) (r0 := []) (cs2 := (w0.set 48 (.inl [0, 1, 0, 0, 0, 0, 0, 0]))) rfl rfl rfl (Nat.le_of_ble_eq_true rfl) rfl rfl e3 (by decide) rfl ?_
      refine E_istore (L2 := [some (.ref 65), some (.int a1), some (.int a2), some (.int 40), some (.int 0), some (.int (-1))]) rfl rfl ?_
      refine E_iload rfl rfl ?_
      refine E_if (t := 17) (b := false) rfl rfl (by decide) ?_
      refine E_iload rfl rfl ?_
      refine E_goto (t := 59) rfl rfl ?_
      exact E_iret rfl rfl
    refine E_callV (v := some (.int (-1))) (As := [.ref 65, .int a1, .int a2, .int 40, .int 0]) (r0 := []) (cs2 := (w0.set 48 (.inl [0, 1, 0, 0, 0, 0, 0, 0]))) rfl rfl rfl (Nat.le_of_ble_eq_true rfl) rfl rfl e28 (by decide) rfl ?_
    refine E_istore (L2 := [some (.ref 65), some (.int a1), some (.int a2), some (.int a3), some (.int a4), some (.int (-1)), none, none, none, none, none, none]) rfl rfl ?_
    refine E_iconst (x := 0) rfl (by decide) ?_
    refine E_istore (L2 := [some (.ref 65), some (.int a1), some (.int a2), some (.int a3), some (.int a4), some (.int (-1)), some (.int 0), none, none, none, none, none]) rfl rfl ?_
    refine E_iload rfl rfl ?_
    refine E_iload_n rfl rfl ?_
    refine E_ic (t := 80) (b := false) rfl rfl ((cn_ge (by decide : (0 : Int32).toInt = 0) (rfl : (a2).toInt = (a2).toInt)).trans (decide_eq_false (by omega))) ?_
    refine E_iload rfl rfl ?_
    refine E_if (t := 80) (b := true) rfl rfl (by decide) ?_
    refine E_iload rfl rfl ?_
    refine E_if (t := 92) (b := false) rfl rfl (by decide) ?_
    refine E_aload_n rfl rfl ?_
    refine E_iload rfl rfl ?_
    refine E_callV (v := some (.int (-11))) (As := [.ref 65, .int (-1)]) (r0 := []) (cs2 := ((w0.set 48 (.inl [0, 1, 0, 0, 0, 0, 0, 0])).set 66 (.inl [0, 1, 0, 0, 0, 0, 0, 0]))) rfl rfl rfl (Nat.le_of_ble_eq_true rfl) rfl rfl c247_X6_noTen (by decide) (by simp only [List.length_set]) ?_
    exact E_iret rfl rfl, (by simp only [List.length_set]; rfl), (by simp only [List.length_set]; rfl), ((ab_szs rfl).trans ((ab_szs rfl).trans rfl)), fun _ => rfl⟩
theorem f_costs_23 (a1 a2 a3 : Int32) (ha1h : a1.toInt ≤ -1) (ha2h : a2.toInt ≤ 0) (ha3l : (0 : Int) ≤ a3.toInt) (ha3h : a3.toInt ≤ 7) : p1_P 6 100 4 188 [.ref 0, .int a1, .int a2, .int a3, .int 0] [.ref 65, .int a1, .int a2, .int a3, .int 0] :=
  ⟨(-11), (w0.set 48 (.inl [0, 1, 0, 0, 0, 0, 0, 0])), ((w0.set 48 (.inl [0, 1, 0, 0, 0, 0, 0, 0])).set 66 (.inl [0, 1, 0, 0, 0, 0, 0, 0])), by
    refine Ef.in (md := mX5_costs) (L := [some (.ref 0), some (.int a1), some (.int a2), some (.int a3), some (.int 0), none, none, none, none]) rfl (Nat.le_of_ble_eq_true rfl) rfl ?_
    refine E_iload_n rfl rfl ?_
    have e2 : Ev ab_Z0 1 47 [.int a3] w0 (some (.int 1), w0) := by
      refine Ef.in (md := mX4_isWish) (L := [some (.int a3)]) rfl (Nat.le_of_ble_eq_true rfl) rfl ?_
      refine E_iload_n rfl rfl ?_
      refine E_if (t := 14) (b := false) rfl rfl ((cn_lt (rfl : (a3).toInt = (a3).toInt) (by decide : (0 : Int32).toInt = 0)).trans (decide_eq_false (by omega))) ?_
      refine E_iload_n rfl rfl ?_
      refine E_bipush (x := 8) rfl (by decide) ?_
      refine E_ic (t := 14) (b := false) rfl rfl ((cn_ge (rfl : (a3).toInt = (a3).toInt) (by decide : (8 : Int32).toInt = 8)).trans (decide_eq_false (by omega))) ?_
      refine E_iconst (x := 1) rfl (by decide) ?_
      refine E_goto (t := 15) rfl rfl ?_
      exact E_iret rfl rfl
    refine E_callS (v := some (.int 1)) (As := [.int a3]) (r0 := []) (cs2 := w0) rfl rfl rfl (Nat.le_of_ble_eq_true rfl) rfl e2 (by decide) rfl ?_
    refine E_if (t := 31) (b := false) rfl rfl (by decide) ?_
    refine E_aload_n rfl rfl ?_
    refine E_iload_n rfl rfl ?_
    refine E_iload_n rfl rfl ?_
    refine E_bipush (x := 40) rfl (by decide) ?_
    refine E_iload rfl rfl ?_
    refine E_callS (v := some (.int 1)) (As := [.int 0]) (r0 := [.int 40, .int a2, .int a1, .ref 0]) (cs2 := w0) rfl rfl rfl (Nat.le_of_ble_eq_true rfl) rfl c230_X5_isOneOfTwo (by decide) rfl ?_
    refine E_if (t := 24) (b := true) rfl rfl (by decide) ?_
    refine E_iconst (x := 0) rfl (by decide) ?_
    have e22 : Ev ab_Z0 3 120 [.ref 0, .int a1, .int a2, .int 40, .int 0] w0 (some (.int 1), w0) := by
      refine Ef.in (md := mX5_whyNoTwos) (L := [some (.ref 0), some (.int a1), some (.int a2), some (.int 40), some (.int 0), none]) rfl (Nat.le_of_ble_eq_true rfl) rfl ?_
      refine E_aload_n rfl rfl ?_
      refine E_iload_n rfl rfl ?_
      have e3 : Ev ab_Z0 2 119 [.ref 0, .int a1] w0 (some (.int 1), w0) := by
        refine Ef.in (md := mX5_whyNoRow) (L := [some (.ref 0), some (.int a1)]) rfl (Nat.le_of_ble_eq_true rfl) rfl ?_
        refine E_iload_n rfl rfl ?_
        have e2 : Ev ab_Z0 1 117 [.int a1] w0 (some (.int 0), w0) := by
          refine Ef.in (md := mX5_isShelf) (L := [some (.int a1)]) rfl (Nat.le_of_ble_eq_true rfl) rfl ?_
          refine E_iload_n rfl rfl ?_
          refine E_if (t := 14) (b := true) rfl rfl ((cn_lt (rfl : (a1).toInt = (a1).toInt) (by decide : (0 : Int32).toInt = 0)).trans (decide_eq_true (by omega))) ?_
          refine E_iconst (x := 0) rfl (by decide) ?_
          exact E_iret rfl rfl
        refine E_callS (v := some (.int 0)) (As := [.int a1]) (r0 := []) (cs2 := w0) rfl rfl rfl (Nat.le_of_ble_eq_true rfl) rfl e2 (by decide) rfl ?_
        refine E_if (t := 9) (b := false) rfl rfl (by decide) ?_
        refine E_iconst (x := 1) rfl (by decide) ?_
        exact E_iret rfl rfl
      refine E_callV (v := some (.int 1)) (As := [.ref 0, .int a1]) (r0 := []) (cs2 := w0) rfl rfl rfl (Nat.le_of_ble_eq_true rfl) rfl rfl e3 (by decide) rfl ?_
      refine E_istore (L2 := [some (.ref 0), some (.int a1), some (.int a2), some (.int 40), some (.int 0), some (.int 1)]) rfl rfl ?_
      refine E_iload rfl rfl ?_
      refine E_if (t := 15) (b := false) rfl rfl (by decide) ?_
      refine E_iload rfl rfl ?_
      exact E_iret rfl rfl
    refine E_callV (v := some (.int 1)) (As := [.ref 0, .int a1, .int a2, .int 40, .int 0]) (r0 := []) (cs2 := w0) rfl rfl rfl (Nat.le_of_ble_eq_true rfl) rfl rfl e22 (by decide) rfl ?_
    refine E_goto (t := 32) rfl rfl ?_
    refine E_istore (L2 := [some (.ref 0), some (.int a1), some (.int a2), some (.int a3), some (.int 0), some (.int 1), none, none, none]) rfl rfl ?_
    refine E_iload rfl rfl ?_
    refine E_if (t := 56) (b := true) rfl rfl (by decide) ?_
    refine E_iload rfl rfl ?_
    refine E_if (t := 71) (b := false) rfl rfl (by decide) ?_
    refine E_aload_n rfl rfl ?_
    refine E_iload rfl rfl ?_
    refine E_callV (v := some (.int (-1))) (As := [.ref 0, .int 1]) (r0 := []) (cs2 := (w0.set 48 (.inl [0, 1, 0, 0, 0, 0, 0, 0]))) rfl rfl rfl (Nat.le_of_ble_eq_true rfl) rfl rfl c1_X5_refuse (by decide) (by simp only [List.length_set]) ?_
    refine E_bipush (x := 10) rfl (by decide) ?_
    refine E_isub (z := (-11)) rfl (by decide) ?_
    exact E_iret rfl rfl, by
    refine Ef.in (md := mX6_costs) (L := [some (.ref 65), some (.int a1), some (.int a2), some (.int a3), some (.int 0), none, none, none, none, none, none, none]) rfl (Nat.le_of_ble_eq_true rfl) rfl ?_
    refine E_aload_n rfl rfl ?_
    refine E_iload_n rfl rfl ?_
    refine E_iconst (x := 0) rfl (by decide) ?_
    refine E_bipush (x := 7) rfl (by decide) ?_
    have e5 : Ev ab_Z0 1 134 [.ref 65, .int a3, .int 0, .int 7] (w0.set 48 (.inl [0, 1, 0, 0, 0, 0, 0, 0])) (some (.int 1), (w0.set 48 (.inl [0, 1, 0, 0, 0, 0, 0, 0]))) := by
      refine Ef.in (md := mX6_isFrom) (L := [some (.ref 65), some (.int a3), some (.int 0), some (.int 7)]) rfl (Nat.le_of_ble_eq_true rfl) rfl ?_
      refine E_iload_n rfl rfl ?_
      refine E_iload_n rfl rfl ?_
      refine E_ic (t := 14) (b := false) rfl rfl ((cn_lt (rfl : (a3).toInt = (a3).toInt) (by decide : (0 : Int32).toInt = 0)).trans (decide_eq_false (by omega))) ?_
      refine E_iload_n rfl rfl ?_
      refine E_iload_n rfl rfl ?_
      refine E_ic (t := 14) (b := false) rfl rfl ((cn_gt (rfl : (a3).toInt = (a3).toInt) (by decide : (7 : Int32).toInt = 7)).trans (decide_eq_false (by omega))) ?_
      refine E_iconst (x := 1) rfl (by decide) ?_
      refine E_goto (t := 15) rfl rfl ?_
      exact E_iret rfl rfl
    refine E_callV (v := some (.int 1)) (As := [.ref 65, .int a3, .int 0, .int 7]) (r0 := []) (cs2 := (w0.set 48 (.inl [0, 1, 0, 0, 0, 0, 0, 0]))) rfl rfl rfl (Nat.le_of_ble_eq_true rfl) rfl rfl e5 (by decide) rfl ?_
    refine E_if (t := 15) (b := true) rfl rfl (by decide) ?_
    refine E_aload_n rfl rfl ?_
    refine E_iload_n rfl rfl ?_
    refine E_iload_n rfl rfl ?_
    refine E_bipush (x := 40) rfl (by decide) ?_
    refine E_iload rfl rfl ?_
    refine E_if (t := 31) (b := true) rfl rfl (by decide) ?_
    refine E_iconst (x := 1) rfl (by decide) ?_
    refine E_goto (t := 36) rfl rfl ?_
    have e26 : Ev ab_Z0 3 186 [.ref 65, .int a1, .int a2, .int 40, .int 1] (w0.set 48 (.inl [0, 1, 0, 0, 0, 0, 0, 0])) (some (.int (-1)), (w0.set 48 (.inl [0, 1, 0, 0, 0, 0, 0, 0]))) := by
      refine Ef.in (md := mX6_barsOf) (L := [some (.ref 65), some (.int a1), some (.int a2), some (.int 40), some (.int 1), none]) rfl (Nat.le_of_ble_eq_true rfl) rfl ?_
      refine E_aload_n rfl rfl ?_
      refine E_iload_n rfl rfl ?_
      have e3 : Ev ab_Z0 2 142 [.ref 65, .int a1] (w0.set 48 (.inl [0, 1, 0, 0, 0, 0, 0, 0])) (some (.int (-1)), (w0.set 48 (.inl [0, 1, 0, 0, 0, 0, 0, 0]))) := by
        refine Ef.in (md := mX6_wanted) (L := [some (.ref 65), some (.int a1)]) rfl (Nat.le_of_ble_eq_true rfl) rfl ?_
        refine E_aload_n rfl rfl ?_
        refine E_iload_n rfl rfl ?_
        have e3 : Ev ab_Z0 1 131 [.ref 65, .int a1] (w0.set 48 (.inl [0, 1, 0, 0, 0, 0, 0, 0])) (some (.int 0), (w0.set 48 (.inl [0, 1, 0, 0, 0, 0, 0, 0]))) := by
          refine Ef.in (md := mX6_isShelf) (L := [some (.ref 65), some (.int a1)]) rfl (Nat.le_of_ble_eq_true rfl) rfl ?_
          refine E_iload_n rfl rfl ?_
          refine E_if (t := 14) (b := true) rfl rfl ((cn_lt (rfl : (a1).toInt = (a1).toInt) (by decide : (0 : Int32).toInt = 0)).trans (decide_eq_true (by omega))) ?_
          refine E_iconst (x := 0) rfl (by decide) ?_
          exact E_iret rfl rfl
        refine E_callV (v := some (.int 0)) (As := [.ref 65, .int a1]) (r0 := []) (cs2 := (w0.set 48 (.inl [0, 1, 0, 0, 0, 0, 0, 0]))) rfl rfl rfl (Nat.le_of_ble_eq_true rfl) rfl rfl e3 (by decide) rfl ?_
        refine E_if (t := 12) (b := false) rfl rfl (by decide) ?_
        refine E_iconst (x := (-1)) rfl (by decide) ?_
        refine E_goto (t := 42) rfl rfl ?_
        exact E_iret rfl rfl
      refine E_callV (v := some (.int (-1))) (As := [.ref 65, .int a1]) (r0 := []) (cs2 := (w0.set 48 (.inl [0, 1, 0, 0, 0, 0, 0, 0]))) rfl rfl rfl (Nat.le_of_ble_eq_true rfl) rfl rfl e3 (by decide) rfl ?_
      refine E_istore (L2 := [some (.ref 65), some (.int a1), some (.int a2), some (.int 40), some (.int 1), some (.int (-1))]) rfl rfl ?_
      refine E_iload rfl rfl ?_
      refine E_if (t := 17) (b := false) rfl rfl (by decide) ?_
      refine E_iload rfl rfl ?_
      refine E_goto (t := 59) rfl rfl ?_
      exact E_iret rfl rfl
    refine E_callV (v := some (.int (-1))) (As := [.ref 65, .int a1, .int a2, .int 40, .int 1]) (r0 := []) (cs2 := (w0.set 48 (.inl [0, 1, 0, 0, 0, 0, 0, 0]))) rfl rfl rfl (Nat.le_of_ble_eq_true rfl) rfl rfl e26 (by decide) rfl ?_
    refine E_istore (L2 := [some (.ref 65), some (.int a1), some (.int a2), some (.int a3), some (.int 0), some (.int (-1)), none, none, none, none, none, none]) rfl rfl ?_
    refine E_iconst (x := 0) rfl (by decide) ?_
    refine E_istore (L2 := [some (.ref 65), some (.int a1), some (.int a2), some (.int a3), some (.int 0), some (.int (-1)), some (.int 0), none, none, none, none, none]) rfl rfl ?_
    refine E_iload rfl rfl ?_
    refine E_iload_n rfl rfl ?_
    refine E_ic (t := 80) (b := true) rfl rfl ((cn_ge (by decide : (0 : Int32).toInt = 0) (rfl : (a2).toInt = (a2).toInt)).trans (decide_eq_true (by omega))) ?_
    refine E_iload rfl rfl ?_
    refine E_if (t := 92) (b := false) rfl rfl (by decide) ?_
    refine E_aload_n rfl rfl ?_
    refine E_iload rfl rfl ?_
    refine E_callV (v := some (.int (-11))) (As := [.ref 65, .int (-1)]) (r0 := []) (cs2 := ((w0.set 48 (.inl [0, 1, 0, 0, 0, 0, 0, 0])).set 66 (.inl [0, 1, 0, 0, 0, 0, 0, 0]))) rfl rfl rfl (Nat.le_of_ble_eq_true rfl) rfl rfl c247_X6_noTen (by decide) (by simp only [List.length_set]) ?_
    exact E_iret rfl rfl, (by simp only [List.length_set]; rfl), (by simp only [List.length_set]; rfl), ((ab_szs rfl).trans ((ab_szs rfl).trans rfl)), fun _ => rfl⟩
theorem f_costs_24 (a1 a2 a3 : Int32) (ha1h : a1.toInt ≤ -1) (ha2l : (1 : Int) ≤ a2.toInt) (ha3l : (0 : Int) ≤ a3.toInt) (ha3h : a3.toInt ≤ 7) : p1_P 6 100 4 188 [.ref 0, .int a1, .int a2, .int a3, .int 0] [.ref 65, .int a1, .int a2, .int a3, .int 0] :=
  ⟨(-11), (w0.set 48 (.inl [0, 1, 0, 0, 0, 0, 0, 0])), ((w0.set 48 (.inl [0, 1, 0, 0, 0, 0, 0, 0])).set 66 (.inl [0, 1, 0, 0, 0, 0, 0, 0])), by
    refine Ef.in (md := mX5_costs) (L := [some (.ref 0), some (.int a1), some (.int a2), some (.int a3), some (.int 0), none, none, none, none]) rfl (Nat.le_of_ble_eq_true rfl) rfl ?_
    refine E_iload_n rfl rfl ?_
    have e2 : Ev ab_Z0 1 47 [.int a3] w0 (some (.int 1), w0) := by
      refine Ef.in (md := mX4_isWish) (L := [some (.int a3)]) rfl (Nat.le_of_ble_eq_true rfl) rfl ?_
      refine E_iload_n rfl rfl ?_
      refine E_if (t := 14) (b := false) rfl rfl ((cn_lt (rfl : (a3).toInt = (a3).toInt) (by decide : (0 : Int32).toInt = 0)).trans (decide_eq_false (by omega))) ?_
      refine E_iload_n rfl rfl ?_
      refine E_bipush (x := 8) rfl (by decide) ?_
      refine E_ic (t := 14) (b := false) rfl rfl ((cn_ge (rfl : (a3).toInt = (a3).toInt) (by decide : (8 : Int32).toInt = 8)).trans (decide_eq_false (by omega))) ?_
      refine E_iconst (x := 1) rfl (by decide) ?_
      refine E_goto (t := 15) rfl rfl ?_
      exact E_iret rfl rfl
    refine E_callS (v := some (.int 1)) (As := [.int a3]) (r0 := []) (cs2 := w0) rfl rfl rfl (Nat.le_of_ble_eq_true rfl) rfl e2 (by decide) rfl ?_
    refine E_if (t := 31) (b := false) rfl rfl (by decide) ?_
    refine E_aload_n rfl rfl ?_
    refine E_iload_n rfl rfl ?_
    refine E_iload_n rfl rfl ?_
    refine E_bipush (x := 40) rfl (by decide) ?_
    refine E_iload rfl rfl ?_
    refine E_callS (v := some (.int 1)) (As := [.int 0]) (r0 := [.int 40, .int a2, .int a1, .ref 0]) (cs2 := w0) rfl rfl rfl (Nat.le_of_ble_eq_true rfl) rfl c230_X5_isOneOfTwo (by decide) rfl ?_
    refine E_if (t := 24) (b := true) rfl rfl (by decide) ?_
    refine E_iconst (x := 0) rfl (by decide) ?_
    have e22 : Ev ab_Z0 3 120 [.ref 0, .int a1, .int a2, .int 40, .int 0] w0 (some (.int 1), w0) := by
      refine Ef.in (md := mX5_whyNoTwos) (L := [some (.ref 0), some (.int a1), some (.int a2), some (.int 40), some (.int 0), none]) rfl (Nat.le_of_ble_eq_true rfl) rfl ?_
      refine E_aload_n rfl rfl ?_
      refine E_iload_n rfl rfl ?_
      have e3 : Ev ab_Z0 2 119 [.ref 0, .int a1] w0 (some (.int 1), w0) := by
        refine Ef.in (md := mX5_whyNoRow) (L := [some (.ref 0), some (.int a1)]) rfl (Nat.le_of_ble_eq_true rfl) rfl ?_
        refine E_iload_n rfl rfl ?_
        have e2 : Ev ab_Z0 1 117 [.int a1] w0 (some (.int 0), w0) := by
          refine Ef.in (md := mX5_isShelf) (L := [some (.int a1)]) rfl (Nat.le_of_ble_eq_true rfl) rfl ?_
          refine E_iload_n rfl rfl ?_
          refine E_if (t := 14) (b := true) rfl rfl ((cn_lt (rfl : (a1).toInt = (a1).toInt) (by decide : (0 : Int32).toInt = 0)).trans (decide_eq_true (by omega))) ?_
          refine E_iconst (x := 0) rfl (by decide) ?_
          exact E_iret rfl rfl
        refine E_callS (v := some (.int 0)) (As := [.int a1]) (r0 := []) (cs2 := w0) rfl rfl rfl (Nat.le_of_ble_eq_true rfl) rfl e2 (by decide) rfl ?_
        refine E_if (t := 9) (b := false) rfl rfl (by decide) ?_
        refine E_iconst (x := 1) rfl (by decide) ?_
        exact E_iret rfl rfl
      refine E_callV (v := some (.int 1)) (As := [.ref 0, .int a1]) (r0 := []) (cs2 := w0) rfl rfl rfl (Nat.le_of_ble_eq_true rfl) rfl rfl e3 (by decide) rfl ?_
      refine E_istore (L2 := [some (.ref 0), some (.int a1), some (.int a2), some (.int 40), some (.int 0), some (.int 1)]) rfl rfl ?_
      refine E_iload rfl rfl ?_
      refine E_if (t := 15) (b := false) rfl rfl (by decide) ?_
      refine E_iload rfl rfl ?_
      exact E_iret rfl rfl
    refine E_callV (v := some (.int 1)) (As := [.ref 0, .int a1, .int a2, .int 40, .int 0]) (r0 := []) (cs2 := w0) rfl rfl rfl (Nat.le_of_ble_eq_true rfl) rfl rfl e22 (by decide) rfl ?_
    refine E_goto (t := 32) rfl rfl ?_
    refine E_istore (L2 := [some (.ref 0), some (.int a1), some (.int a2), some (.int a3), some (.int 0), some (.int 1), none, none, none]) rfl rfl ?_
    refine E_iload rfl rfl ?_
    refine E_if (t := 56) (b := true) rfl rfl (by decide) ?_
    refine E_iload rfl rfl ?_
    refine E_if (t := 71) (b := false) rfl rfl (by decide) ?_
    refine E_aload_n rfl rfl ?_
    refine E_iload rfl rfl ?_
    refine E_callV (v := some (.int (-1))) (As := [.ref 0, .int 1]) (r0 := []) (cs2 := (w0.set 48 (.inl [0, 1, 0, 0, 0, 0, 0, 0]))) rfl rfl rfl (Nat.le_of_ble_eq_true rfl) rfl rfl c1_X5_refuse (by decide) (by simp only [List.length_set]) ?_
    refine E_bipush (x := 10) rfl (by decide) ?_
    refine E_isub (z := (-11)) rfl (by decide) ?_
    exact E_iret rfl rfl, by
    refine Ef.in (md := mX6_costs) (L := [some (.ref 65), some (.int a1), some (.int a2), some (.int a3), some (.int 0), none, none, none, none, none, none, none]) rfl (Nat.le_of_ble_eq_true rfl) rfl ?_
    refine E_aload_n rfl rfl ?_
    refine E_iload_n rfl rfl ?_
    refine E_iconst (x := 0) rfl (by decide) ?_
    refine E_bipush (x := 7) rfl (by decide) ?_
    have e5 : Ev ab_Z0 1 134 [.ref 65, .int a3, .int 0, .int 7] (w0.set 48 (.inl [0, 1, 0, 0, 0, 0, 0, 0])) (some (.int 1), (w0.set 48 (.inl [0, 1, 0, 0, 0, 0, 0, 0]))) := by
      refine Ef.in (md := mX6_isFrom) (L := [some (.ref 65), some (.int a3), some (.int 0), some (.int 7)]) rfl (Nat.le_of_ble_eq_true rfl) rfl ?_
      refine E_iload_n rfl rfl ?_
      refine E_iload_n rfl rfl ?_
      refine E_ic (t := 14) (b := false) rfl rfl ((cn_lt (rfl : (a3).toInt = (a3).toInt) (by decide : (0 : Int32).toInt = 0)).trans (decide_eq_false (by omega))) ?_
      refine E_iload_n rfl rfl ?_
      refine E_iload_n rfl rfl ?_
      refine E_ic (t := 14) (b := false) rfl rfl ((cn_gt (rfl : (a3).toInt = (a3).toInt) (by decide : (7 : Int32).toInt = 7)).trans (decide_eq_false (by omega))) ?_
      refine E_iconst (x := 1) rfl (by decide) ?_
      refine E_goto (t := 15) rfl rfl ?_
      exact E_iret rfl rfl
    refine E_callV (v := some (.int 1)) (As := [.ref 65, .int a3, .int 0, .int 7]) (r0 := []) (cs2 := (w0.set 48 (.inl [0, 1, 0, 0, 0, 0, 0, 0]))) rfl rfl rfl (Nat.le_of_ble_eq_true rfl) rfl rfl e5 (by decide) rfl ?_
    refine E_if (t := 15) (b := true) rfl rfl (by decide) ?_
    refine E_aload_n rfl rfl ?_
    refine E_iload_n rfl rfl ?_
    refine E_iload_n rfl rfl ?_
    refine E_bipush (x := 40) rfl (by decide) ?_
    refine E_iload rfl rfl ?_
    refine E_if (t := 31) (b := true) rfl rfl (by decide) ?_
    refine E_iconst (x := 1) rfl (by decide) ?_
    refine E_goto (t := 36) rfl rfl ?_
    have e26 : Ev ab_Z0 3 186 [.ref 65, .int a1, .int a2, .int 40, .int 1] (w0.set 48 (.inl [0, 1, 0, 0, 0, 0, 0, 0])) (some (.int (-1)), (w0.set 48 (.inl [0, 1, 0, 0, 0, 0, 0, 0]))) := by
      refine Ef.in (md := mX6_barsOf) (L := [some (.ref 65), some (.int a1), some (.int a2), some (.int 40), some (.int 1), none]) rfl (Nat.le_of_ble_eq_true rfl) rfl ?_
      refine E_aload_n rfl rfl ?_
      refine E_iload_n rfl rfl ?_
      have e3 : Ev ab_Z0 2 142 [.ref 65, .int a1] (w0.set 48 (.inl [0, 1, 0, 0, 0, 0, 0, 0])) (some (.int (-1)), (w0.set 48 (.inl [0, 1, 0, 0, 0, 0, 0, 0]))) := by
        refine Ef.in (md := mX6_wanted) (L := [some (.ref 65), some (.int a1)]) rfl (Nat.le_of_ble_eq_true rfl) rfl ?_
        refine E_aload_n rfl rfl ?_
        refine E_iload_n rfl rfl ?_
        have e3 : Ev ab_Z0 1 131 [.ref 65, .int a1] (w0.set 48 (.inl [0, 1, 0, 0, 0, 0, 0, 0])) (some (.int 0), (w0.set 48 (.inl [0, 1, 0, 0, 0, 0, 0, 0]))) := by
          refine Ef.in (md := mX6_isShelf) (L := [some (.ref 65), some (.int a1)]) rfl (Nat.le_of_ble_eq_true rfl) rfl ?_
          refine E_iload_n rfl rfl ?_
          refine E_if (t := 14) (b := true) rfl rfl ((cn_lt (rfl : (a1).toInt = (a1).toInt) (by decide : (0 : Int32).toInt = 0)).trans (decide_eq_true (by omega))) ?_
          refine E_iconst (x := 0) rfl (by decide) ?_
          exact E_iret rfl rfl
        refine E_callV (v := some (.int 0)) (As := [.ref 65, .int a1]) (r0 := []) (cs2 := (w0.set 48 (.inl [0, 1, 0, 0, 0, 0, 0, 0]))) rfl rfl rfl (Nat.le_of_ble_eq_true rfl) rfl rfl e3 (by decide) rfl ?_
        refine E_if (t := 12) (b := false) rfl rfl (by decide) ?_
        refine E_iconst (x := (-1)) rfl (by decide) ?_
        refine E_goto (t := 42) rfl rfl ?_
        exact E_iret rfl rfl
      refine E_callV (v := some (.int (-1))) (As := [.ref 65, .int a1]) (r0 := []) (cs2 := (w0.set 48 (.inl [0, 1, 0, 0, 0, 0, 0, 0]))) rfl rfl rfl (Nat.le_of_ble_eq_true rfl) rfl rfl e3 (by decide) rfl ?_
      refine E_istore (L2 := [some (.ref 65), some (.int a1), some (.int a2), some (.int 40), some (.int 1), some (.int (-1))]) rfl rfl ?_
      refine E_iload rfl rfl ?_
      refine E_if (t := 17) (b := false) rfl rfl (by decide) ?_
      refine E_iload rfl rfl ?_
      refine E_goto (t := 59) rfl rfl ?_
      exact E_iret rfl rfl
    refine E_callV (v := some (.int (-1))) (As := [.ref 65, .int a1, .int a2, .int 40, .int 1]) (r0 := []) (cs2 := (w0.set 48 (.inl [0, 1, 0, 0, 0, 0, 0, 0]))) rfl rfl rfl (Nat.le_of_ble_eq_true rfl) rfl rfl e26 (by decide) rfl ?_
    refine E_istore (L2 := [some (.ref 65), some (.int a1), some (.int a2), some (.int a3), some (.int 0), some (.int (-1)), none, none, none, none, none, none]) rfl rfl ?_
    refine E_iconst (x := 0) rfl (by decide) ?_
    refine E_istore (L2 := [some (.ref 65), some (.int a1), some (.int a2), some (.int a3), some (.int 0), some (.int (-1)), some (.int 0), none, none, none, none, none]) rfl rfl ?_
    refine E_iload rfl rfl ?_
    refine E_iload_n rfl rfl ?_
    refine E_ic (t := 80) (b := false) rfl rfl ((cn_ge (by decide : (0 : Int32).toInt = 0) (rfl : (a2).toInt = (a2).toInt)).trans (decide_eq_false (by omega))) ?_
    refine E_iload rfl rfl ?_
    refine E_if (t := 80) (b := true) rfl rfl (by decide) ?_
    refine E_iload rfl rfl ?_
    refine E_if (t := 92) (b := false) rfl rfl (by decide) ?_
    refine E_aload_n rfl rfl ?_
    refine E_iload rfl rfl ?_
    refine E_callV (v := some (.int (-11))) (As := [.ref 65, .int (-1)]) (r0 := []) (cs2 := ((w0.set 48 (.inl [0, 1, 0, 0, 0, 0, 0, 0])).set 66 (.inl [0, 1, 0, 0, 0, 0, 0, 0]))) rfl rfl rfl (Nat.le_of_ble_eq_true rfl) rfl rfl c247_X6_noTen (by decide) (by simp only [List.length_set]) ?_
    exact E_iret rfl rfl, (by simp only [List.length_set]; rfl), (by simp only [List.length_set]; rfl), ((ab_szs rfl).trans ((ab_szs rfl).trans rfl)), fun _ => rfl⟩
theorem f_costs_25 (a2 a3 : Int32) (ha2h : a2.toInt ≤ 0) (ha3l : (0 : Int) ≤ a3.toInt) (ha3h : a3.toInt ≤ 7) : p1_P 6 100 4 188 [.ref 0, .int 0, .int a2, .int a3, .int 0] [.ref 65, .int 0, .int a2, .int a3, .int 0] :=
  ⟨(-13), (w0.set 48 (.inl [0, 0, 0, 1, 0, 0, 0, 0])), ((w0.set 48 (.inl [0, 0, 0, 1, 0, 0, 0, 0])).set 66 (.inl [0, 0, 0, 1, 0, 0, 0, 0])), by
    refine Ef.in (md := mX5_costs) (L := [some (.ref 0), some (.int 0), some (.int a2), some (.int a3), some (.int 0), none, none, none, none]) rfl (Nat.le_of_ble_eq_true rfl) rfl ?_
    refine E_iload_n rfl rfl ?_
    have e2 : Ev ab_Z0 1 47 [.int a3] w0 (some (.int 1), w0) := by
      refine Ef.in (md := mX4_isWish) (L := [some (.int a3)]) rfl (Nat.le_of_ble_eq_true rfl) rfl ?_
      refine E_iload_n rfl rfl ?_
      refine E_if (t := 14) (b := false) rfl rfl ((cn_lt (rfl : (a3).toInt = (a3).toInt) (by decide : (0 : Int32).toInt = 0)).trans (decide_eq_false (by omega))) ?_
      refine E_iload_n rfl rfl ?_
      refine E_bipush (x := 8) rfl (by decide) ?_
      refine E_ic (t := 14) (b := false) rfl rfl ((cn_ge (rfl : (a3).toInt = (a3).toInt) (by decide : (8 : Int32).toInt = 8)).trans (decide_eq_false (by omega))) ?_
      refine E_iconst (x := 1) rfl (by decide) ?_
      refine E_goto (t := 15) rfl rfl ?_
      exact E_iret rfl rfl
    refine E_callS (v := some (.int 1)) (As := [.int a3]) (r0 := []) (cs2 := w0) rfl rfl rfl (Nat.le_of_ble_eq_true rfl) rfl e2 (by decide) rfl ?_
    refine E_if (t := 31) (b := false) rfl rfl (by decide) ?_
    refine E_aload_n rfl rfl ?_
    refine E_iload_n rfl rfl ?_
    refine E_iload_n rfl rfl ?_
    refine E_bipush (x := 40) rfl (by decide) ?_
    refine E_iload rfl rfl ?_
    refine E_callS (v := some (.int 1)) (As := [.int 0]) (r0 := [.int 40, .int a2, .int 0, .ref 0]) (cs2 := w0) rfl rfl rfl (Nat.le_of_ble_eq_true rfl) rfl c230_X5_isOneOfTwo (by decide) rfl ?_
    refine E_if (t := 24) (b := true) rfl rfl (by decide) ?_
    refine E_iconst (x := 0) rfl (by decide) ?_
    have e22 : Ev ab_Z0 3 120 [.ref 0, .int 0, .int a2, .int 40, .int 0] w0 (some (.int 3), w0) := by
      refine Ef.in (md := mX5_whyNoTwos) (L := [some (.ref 0), some (.int 0), some (.int a2), some (.int 40), some (.int 0), none]) rfl (Nat.le_of_ble_eq_true rfl) rfl ?_
      refine E_aload_n rfl rfl ?_
      refine E_iload_n rfl rfl ?_
      refine E_callV (v := some (.int 3)) (As := [.ref 0, .int 0]) (r0 := []) (cs2 := w0) rfl rfl rfl (Nat.le_of_ble_eq_true rfl) rfl rfl c29_X5_whyNoRow (by decide) rfl ?_
      refine E_istore (L2 := [some (.ref 0), some (.int 0), some (.int a2), some (.int 40), some (.int 0), some (.int 3)]) rfl rfl ?_
      refine E_iload rfl rfl ?_
      refine E_if (t := 15) (b := false) rfl rfl (by decide) ?_
      refine E_iload rfl rfl ?_
      exact E_iret rfl rfl
    refine E_callV (v := some (.int 3)) (As := [.ref 0, .int 0, .int a2, .int 40, .int 0]) (r0 := []) (cs2 := w0) rfl rfl rfl (Nat.le_of_ble_eq_true rfl) rfl rfl e22 (by decide) rfl ?_
    refine E_goto (t := 32) rfl rfl ?_
    refine E_istore (L2 := [some (.ref 0), some (.int 0), some (.int a2), some (.int a3), some (.int 0), some (.int 3), none, none, none]) rfl rfl ?_
    refine E_iload rfl rfl ?_
    refine E_if (t := 56) (b := true) rfl rfl (by decide) ?_
    refine E_iload rfl rfl ?_
    refine E_if (t := 71) (b := false) rfl rfl (by decide) ?_
    refine E_aload_n rfl rfl ?_
    refine E_iload rfl rfl ?_
    refine E_callV (v := some (.int (-3))) (As := [.ref 0, .int 3]) (r0 := []) (cs2 := (w0.set 48 (.inl [0, 0, 0, 1, 0, 0, 0, 0]))) rfl rfl rfl (Nat.le_of_ble_eq_true rfl) rfl rfl c32_X5_refuse (by decide) (by simp only [List.length_set]) ?_
    refine E_bipush (x := 10) rfl (by decide) ?_
    refine E_isub (z := (-13)) rfl (by decide) ?_
    exact E_iret rfl rfl, by
    refine Ef.in (md := mX6_costs) (L := [some (.ref 65), some (.int 0), some (.int a2), some (.int a3), some (.int 0), none, none, none, none, none, none, none]) rfl (Nat.le_of_ble_eq_true rfl) rfl ?_
    refine E_aload_n rfl rfl ?_
    refine E_iload_n rfl rfl ?_
    refine E_iconst (x := 0) rfl (by decide) ?_
    refine E_bipush (x := 7) rfl (by decide) ?_
    have e5 : Ev ab_Z0 1 134 [.ref 65, .int a3, .int 0, .int 7] (w0.set 48 (.inl [0, 0, 0, 1, 0, 0, 0, 0])) (some (.int 1), (w0.set 48 (.inl [0, 0, 0, 1, 0, 0, 0, 0]))) := by
      refine Ef.in (md := mX6_isFrom) (L := [some (.ref 65), some (.int a3), some (.int 0), some (.int 7)]) rfl (Nat.le_of_ble_eq_true rfl) rfl ?_
      refine E_iload_n rfl rfl ?_
      refine E_iload_n rfl rfl ?_
      refine E_ic (t := 14) (b := false) rfl rfl ((cn_lt (rfl : (a3).toInt = (a3).toInt) (by decide : (0 : Int32).toInt = 0)).trans (decide_eq_false (by omega))) ?_
      refine E_iload_n rfl rfl ?_
      refine E_iload_n rfl rfl ?_
      refine E_ic (t := 14) (b := false) rfl rfl ((cn_gt (rfl : (a3).toInt = (a3).toInt) (by decide : (7 : Int32).toInt = 7)).trans (decide_eq_false (by omega))) ?_
      refine E_iconst (x := 1) rfl (by decide) ?_
      refine E_goto (t := 15) rfl rfl ?_
      exact E_iret rfl rfl
    refine E_callV (v := some (.int 1)) (As := [.ref 65, .int a3, .int 0, .int 7]) (r0 := []) (cs2 := (w0.set 48 (.inl [0, 0, 0, 1, 0, 0, 0, 0]))) rfl rfl rfl (Nat.le_of_ble_eq_true rfl) rfl rfl e5 (by decide) rfl ?_
    refine E_if (t := 15) (b := true) rfl rfl (by decide) ?_
    refine E_aload_n rfl rfl ?_
    refine E_iload_n rfl rfl ?_
    refine E_iload_n rfl rfl ?_
    refine E_bipush (x := 40) rfl (by decide) ?_
    refine E_iload rfl rfl ?_
    refine E_if (t := 31) (b := true) rfl rfl (by decide) ?_
    refine E_iconst (x := 1) rfl (by decide) ?_
    refine E_goto (t := 36) rfl rfl ?_
    have e26 : Ev ab_Z0 3 186 [.ref 65, .int 0, .int a2, .int 40, .int 1] (w0.set 48 (.inl [0, 0, 0, 1, 0, 0, 0, 0])) (some (.int (-3)), (w0.set 48 (.inl [0, 0, 0, 1, 0, 0, 0, 0]))) := by
      refine Ef.in (md := mX6_barsOf) (L := [some (.ref 65), some (.int 0), some (.int a2), some (.int 40), some (.int 1), none]) rfl (Nat.le_of_ble_eq_true rfl) rfl ?_
      refine E_aload_n rfl rfl ?_
      refine E_iload_n rfl rfl ?_
      refine E_callV (v := some (.int (-3))) (As := [.ref 65, .int 0]) (r0 := []) (cs2 := (w0.set 48 (.inl [0, 0, 0, 1, 0, 0, 0, 0]))) rfl rfl rfl (Nat.le_of_ble_eq_true rfl) rfl rfl c205_X6_wanted (by decide) rfl ?_
      refine E_istore (L2 := [some (.ref 65), some (.int 0), some (.int a2), some (.int 40), some (.int 1), some (.int (-3))]) rfl rfl ?_
      refine E_iload rfl rfl ?_
      refine E_if (t := 17) (b := false) rfl rfl (by decide) ?_
      refine E_iload rfl rfl ?_
      refine E_goto (t := 59) rfl rfl ?_
      exact E_iret rfl rfl
    refine E_callV (v := some (.int (-3))) (As := [.ref 65, .int 0, .int a2, .int 40, .int 1]) (r0 := []) (cs2 := (w0.set 48 (.inl [0, 0, 0, 1, 0, 0, 0, 0]))) rfl rfl rfl (Nat.le_of_ble_eq_true rfl) rfl rfl e26 (by decide) rfl ?_
    refine E_istore (L2 := [some (.ref 65), some (.int 0), some (.int a2), some (.int a3), some (.int 0), some (.int (-3)), none, none, none, none, none, none]) rfl rfl ?_
    refine E_iconst (x := 0) rfl (by decide) ?_
    refine E_istore (L2 := [some (.ref 65), some (.int 0), some (.int a2), some (.int a3), some (.int 0), some (.int (-3)), some (.int 0), none, none, none, none, none]) rfl rfl ?_
    refine E_iload rfl rfl ?_
    refine E_iload_n rfl rfl ?_
    refine E_ic (t := 80) (b := true) rfl rfl ((cn_ge (by decide : (0 : Int32).toInt = 0) (rfl : (a2).toInt = (a2).toInt)).trans (decide_eq_true (by omega))) ?_
    refine E_iload rfl rfl ?_
    refine E_if (t := 92) (b := false) rfl rfl (by decide) ?_
    refine E_aload_n rfl rfl ?_
    refine E_iload rfl rfl ?_
    refine E_callV (v := some (.int (-13))) (As := [.ref 65, .int (-3)]) (r0 := []) (cs2 := ((w0.set 48 (.inl [0, 0, 0, 1, 0, 0, 0, 0])).set 66 (.inl [0, 0, 0, 1, 0, 0, 0, 0]))) rfl rfl rfl (Nat.le_of_ble_eq_true rfl) rfl rfl c258_X6_noTen (by decide) (by simp only [List.length_set]) ?_
    exact E_iret rfl rfl, (by simp only [List.length_set]; rfl), (by simp only [List.length_set]; rfl), ((ab_szs rfl).trans ((ab_szs rfl).trans rfl)), fun _ => rfl⟩
theorem f_costs_26 (a2 a3 : Int32) (ha2l : (1 : Int) ≤ a2.toInt) (ha3l : (0 : Int) ≤ a3.toInt) (ha3h : a3.toInt ≤ 7) : p1_P 6 100 4 188 [.ref 0, .int 0, .int a2, .int a3, .int 0] [.ref 65, .int 0, .int a2, .int a3, .int 0] :=
  ⟨(-13), (w0.set 48 (.inl [0, 0, 0, 1, 0, 0, 0, 0])), ((w0.set 48 (.inl [0, 0, 0, 1, 0, 0, 0, 0])).set 66 (.inl [0, 0, 0, 1, 0, 0, 0, 0])), by
    refine Ef.in (md := mX5_costs) (L := [some (.ref 0), some (.int 0), some (.int a2), some (.int a3), some (.int 0), none, none, none, none]) rfl (Nat.le_of_ble_eq_true rfl) rfl ?_
    refine E_iload_n rfl rfl ?_
    have e2 : Ev ab_Z0 1 47 [.int a3] w0 (some (.int 1), w0) := by
      refine Ef.in (md := mX4_isWish) (L := [some (.int a3)]) rfl (Nat.le_of_ble_eq_true rfl) rfl ?_
      refine E_iload_n rfl rfl ?_
      refine E_if (t := 14) (b := false) rfl rfl ((cn_lt (rfl : (a3).toInt = (a3).toInt) (by decide : (0 : Int32).toInt = 0)).trans (decide_eq_false (by omega))) ?_
      refine E_iload_n rfl rfl ?_
      refine E_bipush (x := 8) rfl (by decide) ?_
      refine E_ic (t := 14) (b := false) rfl rfl ((cn_ge (rfl : (a3).toInt = (a3).toInt) (by decide : (8 : Int32).toInt = 8)).trans (decide_eq_false (by omega))) ?_
      refine E_iconst (x := 1) rfl (by decide) ?_
      refine E_goto (t := 15) rfl rfl ?_
      exact E_iret rfl rfl
    refine E_callS (v := some (.int 1)) (As := [.int a3]) (r0 := []) (cs2 := w0) rfl rfl rfl (Nat.le_of_ble_eq_true rfl) rfl e2 (by decide) rfl ?_
    refine E_if (t := 31) (b := false) rfl rfl (by decide) ?_
    refine E_aload_n rfl rfl ?_
    refine E_iload_n rfl rfl ?_
    refine E_iload_n rfl rfl ?_
    refine E_bipush (x := 40) rfl (by decide) ?_
    refine E_iload rfl rfl ?_
    refine E_callS (v := some (.int 1)) (As := [.int 0]) (r0 := [.int 40, .int a2, .int 0, .ref 0]) (cs2 := w0) rfl rfl rfl (Nat.le_of_ble_eq_true rfl) rfl c230_X5_isOneOfTwo (by decide) rfl ?_
    refine E_if (t := 24) (b := true) rfl rfl (by decide) ?_
    refine E_iconst (x := 0) rfl (by decide) ?_
    have e22 : Ev ab_Z0 3 120 [.ref 0, .int 0, .int a2, .int 40, .int 0] w0 (some (.int 3), w0) := by
      refine Ef.in (md := mX5_whyNoTwos) (L := [some (.ref 0), some (.int 0), some (.int a2), some (.int 40), some (.int 0), none]) rfl (Nat.le_of_ble_eq_true rfl) rfl ?_
      refine E_aload_n rfl rfl ?_
      refine E_iload_n rfl rfl ?_
      refine E_callV (v := some (.int 3)) (As := [.ref 0, .int 0]) (r0 := []) (cs2 := w0) rfl rfl rfl (Nat.le_of_ble_eq_true rfl) rfl rfl c29_X5_whyNoRow (by decide) rfl ?_
      refine E_istore (L2 := [some (.ref 0), some (.int 0), some (.int a2), some (.int 40), some (.int 0), some (.int 3)]) rfl rfl ?_
      refine E_iload rfl rfl ?_
      refine E_if (t := 15) (b := false) rfl rfl (by decide) ?_
      refine E_iload rfl rfl ?_
      exact E_iret rfl rfl
    refine E_callV (v := some (.int 3)) (As := [.ref 0, .int 0, .int a2, .int 40, .int 0]) (r0 := []) (cs2 := w0) rfl rfl rfl (Nat.le_of_ble_eq_true rfl) rfl rfl e22 (by decide) rfl ?_
    refine E_goto (t := 32) rfl rfl ?_
    refine E_istore (L2 := [some (.ref 0), some (.int 0), some (.int a2), some (.int a3), some (.int 0), some (.int 3), none, none, none]) rfl rfl ?_
    refine E_iload rfl rfl ?_
    refine E_if (t := 56) (b := true) rfl rfl (by decide) ?_
    refine E_iload rfl rfl ?_
    refine E_if (t := 71) (b := false) rfl rfl (by decide) ?_
    refine E_aload_n rfl rfl ?_
    refine E_iload rfl rfl ?_
    refine E_callV (v := some (.int (-3))) (As := [.ref 0, .int 3]) (r0 := []) (cs2 := (w0.set 48 (.inl [0, 0, 0, 1, 0, 0, 0, 0]))) rfl rfl rfl (Nat.le_of_ble_eq_true rfl) rfl rfl c32_X5_refuse (by decide) (by simp only [List.length_set]) ?_
    refine E_bipush (x := 10) rfl (by decide) ?_
    refine E_isub (z := (-13)) rfl (by decide) ?_
    exact E_iret rfl rfl, by
    refine Ef.in (md := mX6_costs) (L := [some (.ref 65), some (.int 0), some (.int a2), some (.int a3), some (.int 0), none, none, none, none, none, none, none]) rfl (Nat.le_of_ble_eq_true rfl) rfl ?_
    refine E_aload_n rfl rfl ?_
    refine E_iload_n rfl rfl ?_
    refine E_iconst (x := 0) rfl (by decide) ?_
    refine E_bipush (x := 7) rfl (by decide) ?_
    have e5 : Ev ab_Z0 1 134 [.ref 65, .int a3, .int 0, .int 7] (w0.set 48 (.inl [0, 0, 0, 1, 0, 0, 0, 0])) (some (.int 1), (w0.set 48 (.inl [0, 0, 0, 1, 0, 0, 0, 0]))) := by
      refine Ef.in (md := mX6_isFrom) (L := [some (.ref 65), some (.int a3), some (.int 0), some (.int 7)]) rfl (Nat.le_of_ble_eq_true rfl) rfl ?_
      refine E_iload_n rfl rfl ?_
      refine E_iload_n rfl rfl ?_
      refine E_ic (t := 14) (b := false) rfl rfl ((cn_lt (rfl : (a3).toInt = (a3).toInt) (by decide : (0 : Int32).toInt = 0)).trans (decide_eq_false (by omega))) ?_
      refine E_iload_n rfl rfl ?_
      refine E_iload_n rfl rfl ?_
      refine E_ic (t := 14) (b := false) rfl rfl ((cn_gt (rfl : (a3).toInt = (a3).toInt) (by decide : (7 : Int32).toInt = 7)).trans (decide_eq_false (by omega))) ?_
      refine E_iconst (x := 1) rfl (by decide) ?_
      refine E_goto (t := 15) rfl rfl ?_
      exact E_iret rfl rfl
    refine E_callV (v := some (.int 1)) (As := [.ref 65, .int a3, .int 0, .int 7]) (r0 := []) (cs2 := (w0.set 48 (.inl [0, 0, 0, 1, 0, 0, 0, 0]))) rfl rfl rfl (Nat.le_of_ble_eq_true rfl) rfl rfl e5 (by decide) rfl ?_
    refine E_if (t := 15) (b := true) rfl rfl (by decide) ?_
    refine E_aload_n rfl rfl ?_
    refine E_iload_n rfl rfl ?_
    refine E_iload_n rfl rfl ?_
    refine E_bipush (x := 40) rfl (by decide) ?_
    refine E_iload rfl rfl ?_
    refine E_if (t := 31) (b := true) rfl rfl (by decide) ?_
    refine E_iconst (x := 1) rfl (by decide) ?_
    refine E_goto (t := 36) rfl rfl ?_
    have e26 : Ev ab_Z0 3 186 [.ref 65, .int 0, .int a2, .int 40, .int 1] (w0.set 48 (.inl [0, 0, 0, 1, 0, 0, 0, 0])) (some (.int (-3)), (w0.set 48 (.inl [0, 0, 0, 1, 0, 0, 0, 0]))) := by
      refine Ef.in (md := mX6_barsOf) (L := [some (.ref 65), some (.int 0), some (.int a2), some (.int 40), some (.int 1), none]) rfl (Nat.le_of_ble_eq_true rfl) rfl ?_
      refine E_aload_n rfl rfl ?_
      refine E_iload_n rfl rfl ?_
      refine E_callV (v := some (.int (-3))) (As := [.ref 65, .int 0]) (r0 := []) (cs2 := (w0.set 48 (.inl [0, 0, 0, 1, 0, 0, 0, 0]))) rfl rfl rfl (Nat.le_of_ble_eq_true rfl) rfl rfl c205_X6_wanted (by decide) rfl ?_
      refine E_istore (L2 := [some (.ref 65), some (.int 0), some (.int a2), some (.int 40), some (.int 1), some (.int (-3))]) rfl rfl ?_
      refine E_iload rfl rfl ?_
      refine E_if (t := 17) (b := false) rfl rfl (by decide) ?_
      refine E_iload rfl rfl ?_
      refine E_goto (t := 59) rfl rfl ?_
      exact E_iret rfl rfl
    refine E_callV (v := some (.int (-3))) (As := [.ref 65, .int 0, .int a2, .int 40, .int 1]) (r0 := []) (cs2 := (w0.set 48 (.inl [0, 0, 0, 1, 0, 0, 0, 0]))) rfl rfl rfl (Nat.le_of_ble_eq_true rfl) rfl rfl e26 (by decide) rfl ?_
    refine E_istore (L2 := [some (.ref 65), some (.int 0), some (.int a2), some (.int a3), some (.int 0), some (.int (-3)), none, none, none, none, none, none]) rfl rfl ?_
    refine E_iconst (x := 0) rfl (by decide) ?_
    refine E_istore (L2 := [some (.ref 65), some (.int 0), some (.int a2), some (.int a3), some (.int 0), some (.int (-3)), some (.int 0), none, none, none, none, none]) rfl rfl ?_
    refine E_iload rfl rfl ?_
    refine E_iload_n rfl rfl ?_
    refine E_ic (t := 80) (b := false) rfl rfl ((cn_ge (by decide : (0 : Int32).toInt = 0) (rfl : (a2).toInt = (a2).toInt)).trans (decide_eq_false (by omega))) ?_
    refine E_iload rfl rfl ?_
    refine E_if (t := 80) (b := true) rfl rfl (by decide) ?_
    refine E_iload rfl rfl ?_
    refine E_if (t := 92) (b := false) rfl rfl (by decide) ?_
    refine E_aload_n rfl rfl ?_
    refine E_iload rfl rfl ?_
    refine E_callV (v := some (.int (-13))) (As := [.ref 65, .int (-3)]) (r0 := []) (cs2 := ((w0.set 48 (.inl [0, 0, 0, 1, 0, 0, 0, 0])).set 66 (.inl [0, 0, 0, 1, 0, 0, 0, 0]))) rfl rfl rfl (Nat.le_of_ble_eq_true rfl) rfl rfl c258_X6_noTen (by decide) (by simp only [List.length_set]) ?_
    exact E_iret rfl rfl, (by simp only [List.length_set]; rfl), (by simp only [List.length_set]; rfl), ((ab_szs rfl).trans ((ab_szs rfl).trans rfl)), fun _ => rfl⟩
theorem f_costs_27 (a2 a3 : Int32) (ha2h : a2.toInt ≤ 0) (ha3l : (0 : Int) ≤ a3.toInt) (ha3h : a3.toInt ≤ 7) : p1_P 6 100 4 188 [.ref 0, .int 1, .int a2, .int a3, .int 0] [.ref 65, .int 1, .int a2, .int a3, .int 0] :=
  ⟨(-13), (w0.set 48 (.inl [0, 0, 0, 1, 0, 0, 0, 0])), ((w0.set 48 (.inl [0, 0, 0, 1, 0, 0, 0, 0])).set 66 (.inl [0, 0, 0, 1, 0, 0, 0, 0])), by
    refine Ef.in (md := mX5_costs) (L := [some (.ref 0), some (.int 1), some (.int a2), some (.int a3), some (.int 0), none, none, none, none]) rfl (Nat.le_of_ble_eq_true rfl) rfl ?_
    refine E_iload_n rfl rfl ?_
    have e2 : Ev ab_Z0 1 47 [.int a3] w0 (some (.int 1), w0) := by
      refine Ef.in (md := mX4_isWish) (L := [some (.int a3)]) rfl (Nat.le_of_ble_eq_true rfl) rfl ?_
      refine E_iload_n rfl rfl ?_
      refine E_if (t := 14) (b := false) rfl rfl ((cn_lt (rfl : (a3).toInt = (a3).toInt) (by decide : (0 : Int32).toInt = 0)).trans (decide_eq_false (by omega))) ?_
      refine E_iload_n rfl rfl ?_
      refine E_bipush (x := 8) rfl (by decide) ?_
      refine E_ic (t := 14) (b := false) rfl rfl ((cn_ge (rfl : (a3).toInt = (a3).toInt) (by decide : (8 : Int32).toInt = 8)).trans (decide_eq_false (by omega))) ?_
      refine E_iconst (x := 1) rfl (by decide) ?_
      refine E_goto (t := 15) rfl rfl ?_
      exact E_iret rfl rfl
    refine E_callS (v := some (.int 1)) (As := [.int a3]) (r0 := []) (cs2 := w0) rfl rfl rfl (Nat.le_of_ble_eq_true rfl) rfl e2 (by decide) rfl ?_
    refine E_if (t := 31) (b := false) rfl rfl (by decide) ?_
    refine E_aload_n rfl rfl ?_
    refine E_iload_n rfl rfl ?_
    refine E_iload_n rfl rfl ?_
    refine E_bipush (x := 40) rfl (by decide) ?_
    refine E_iload rfl rfl ?_
    refine E_callS (v := some (.int 1)) (As := [.int 0]) (r0 := [.int 40, .int a2, .int 1, .ref 0]) (cs2 := w0) rfl rfl rfl (Nat.le_of_ble_eq_true rfl) rfl c230_X5_isOneOfTwo (by decide) rfl ?_
    refine E_if (t := 24) (b := true) rfl rfl (by decide) ?_
    refine E_iconst (x := 0) rfl (by decide) ?_
    have e22 : Ev ab_Z0 3 120 [.ref 0, .int 1, .int a2, .int 40, .int 0] w0 (some (.int 3), w0) := by
      refine Ef.in (md := mX5_whyNoTwos) (L := [some (.ref 0), some (.int 1), some (.int a2), some (.int 40), some (.int 0), none]) rfl (Nat.le_of_ble_eq_true rfl) rfl ?_
      refine E_aload_n rfl rfl ?_
      refine E_iload_n rfl rfl ?_
      refine E_callV (v := some (.int 3)) (As := [.ref 0, .int 1]) (r0 := []) (cs2 := w0) rfl rfl rfl (Nat.le_of_ble_eq_true rfl) rfl rfl c36_X5_whyNoRow (by decide) rfl ?_
      refine E_istore (L2 := [some (.ref 0), some (.int 1), some (.int a2), some (.int 40), some (.int 0), some (.int 3)]) rfl rfl ?_
      refine E_iload rfl rfl ?_
      refine E_if (t := 15) (b := false) rfl rfl (by decide) ?_
      refine E_iload rfl rfl ?_
      exact E_iret rfl rfl
    refine E_callV (v := some (.int 3)) (As := [.ref 0, .int 1, .int a2, .int 40, .int 0]) (r0 := []) (cs2 := w0) rfl rfl rfl (Nat.le_of_ble_eq_true rfl) rfl rfl e22 (by decide) rfl ?_
    refine E_goto (t := 32) rfl rfl ?_
    refine E_istore (L2 := [some (.ref 0), some (.int 1), some (.int a2), some (.int a3), some (.int 0), some (.int 3), none, none, none]) rfl rfl ?_
    refine E_iload rfl rfl ?_
    refine E_if (t := 56) (b := true) rfl rfl (by decide) ?_
    refine E_iload rfl rfl ?_
    refine E_if (t := 71) (b := false) rfl rfl (by decide) ?_
    refine E_aload_n rfl rfl ?_
    refine E_iload rfl rfl ?_
    refine E_callV (v := some (.int (-3))) (As := [.ref 0, .int 3]) (r0 := []) (cs2 := (w0.set 48 (.inl [0, 0, 0, 1, 0, 0, 0, 0]))) rfl rfl rfl (Nat.le_of_ble_eq_true rfl) rfl rfl c32_X5_refuse (by decide) (by simp only [List.length_set]) ?_
    refine E_bipush (x := 10) rfl (by decide) ?_
    refine E_isub (z := (-13)) rfl (by decide) ?_
    exact E_iret rfl rfl, by
    refine Ef.in (md := mX6_costs) (L := [some (.ref 65), some (.int 1), some (.int a2), some (.int a3), some (.int 0), none, none, none, none, none, none, none]) rfl (Nat.le_of_ble_eq_true rfl) rfl ?_
    refine E_aload_n rfl rfl ?_
    refine E_iload_n rfl rfl ?_
    refine E_iconst (x := 0) rfl (by decide) ?_
    refine E_bipush (x := 7) rfl (by decide) ?_
    have e5 : Ev ab_Z0 1 134 [.ref 65, .int a3, .int 0, .int 7] (w0.set 48 (.inl [0, 0, 0, 1, 0, 0, 0, 0])) (some (.int 1), (w0.set 48 (.inl [0, 0, 0, 1, 0, 0, 0, 0]))) := by
      refine Ef.in (md := mX6_isFrom) (L := [some (.ref 65), some (.int a3), some (.int 0), some (.int 7)]) rfl (Nat.le_of_ble_eq_true rfl) rfl ?_
      refine E_iload_n rfl rfl ?_
      refine E_iload_n rfl rfl ?_
      refine E_ic (t := 14) (b := false) rfl rfl ((cn_lt (rfl : (a3).toInt = (a3).toInt) (by decide : (0 : Int32).toInt = 0)).trans (decide_eq_false (by omega))) ?_
      refine E_iload_n rfl rfl ?_
      refine E_iload_n rfl rfl ?_
      refine E_ic (t := 14) (b := false) rfl rfl ((cn_gt (rfl : (a3).toInt = (a3).toInt) (by decide : (7 : Int32).toInt = 7)).trans (decide_eq_false (by omega))) ?_
      refine E_iconst (x := 1) rfl (by decide) ?_
      refine E_goto (t := 15) rfl rfl ?_
      exact E_iret rfl rfl
    refine E_callV (v := some (.int 1)) (As := [.ref 65, .int a3, .int 0, .int 7]) (r0 := []) (cs2 := (w0.set 48 (.inl [0, 0, 0, 1, 0, 0, 0, 0]))) rfl rfl rfl (Nat.le_of_ble_eq_true rfl) rfl rfl e5 (by decide) rfl ?_
    refine E_if (t := 15) (b := true) rfl rfl (by decide) ?_
    refine E_aload_n rfl rfl ?_
    refine E_iload_n rfl rfl ?_
    refine E_iload_n rfl rfl ?_
    refine E_bipush (x := 40) rfl (by decide) ?_
    refine E_iload rfl rfl ?_
    refine E_if (t := 31) (b := true) rfl rfl (by decide) ?_
    refine E_iconst (x := 1) rfl (by decide) ?_
    refine E_goto (t := 36) rfl rfl ?_
    have e26 : Ev ab_Z0 3 186 [.ref 65, .int 1, .int a2, .int 40, .int 1] (w0.set 48 (.inl [0, 0, 0, 1, 0, 0, 0, 0])) (some (.int (-3)), (w0.set 48 (.inl [0, 0, 0, 1, 0, 0, 0, 0]))) := by
      refine Ef.in (md := mX6_barsOf) (L := [some (.ref 65), some (.int 1), some (.int a2), some (.int 40), some (.int 1), none]) rfl (Nat.le_of_ble_eq_true rfl) rfl ?_
      refine E_aload_n rfl rfl ?_
      refine E_iload_n rfl rfl ?_
      refine E_callV (v := some (.int (-3))) (As := [.ref 65, .int 1]) (r0 := []) (cs2 := (w0.set 48 (.inl [0, 0, 0, 1, 0, 0, 0, 0]))) rfl rfl rfl (Nat.le_of_ble_eq_true rfl) rfl rfl c208_X6_wanted (by decide) rfl ?_
      refine E_istore (L2 := [some (.ref 65), some (.int 1), some (.int a2), some (.int 40), some (.int 1), some (.int (-3))]) rfl rfl ?_
      refine E_iload rfl rfl ?_
      refine E_if (t := 17) (b := false) rfl rfl (by decide) ?_
      refine E_iload rfl rfl ?_
      refine E_goto (t := 59) rfl rfl ?_
      exact E_iret rfl rfl
    refine E_callV (v := some (.int (-3))) (As := [.ref 65, .int 1, .int a2, .int 40, .int 1]) (r0 := []) (cs2 := (w0.set 48 (.inl [0, 0, 0, 1, 0, 0, 0, 0]))) rfl rfl rfl (Nat.le_of_ble_eq_true rfl) rfl rfl e26 (by decide) rfl ?_
    refine E_istore (L2 := [some (.ref 65), some (.int 1), some (.int a2), some (.int a3), some (.int 0), some (.int (-3)), none, none, none, none, none, none]) rfl rfl ?_
    refine E_iconst (x := 0) rfl (by decide) ?_
    refine E_istore (L2 := [some (.ref 65), some (.int 1), some (.int a2), some (.int a3), some (.int 0), some (.int (-3)), some (.int 0), none, none, none, none, none]) rfl rfl ?_
    refine E_iload rfl rfl ?_
    refine E_iload_n rfl rfl ?_
    refine E_ic (t := 80) (b := true) rfl rfl ((cn_ge (by decide : (0 : Int32).toInt = 0) (rfl : (a2).toInt = (a2).toInt)).trans (decide_eq_true (by omega))) ?_
    refine E_iload rfl rfl ?_
    refine E_if (t := 92) (b := false) rfl rfl (by decide) ?_
    refine E_aload_n rfl rfl ?_
    refine E_iload rfl rfl ?_
    refine E_callV (v := some (.int (-13))) (As := [.ref 65, .int (-3)]) (r0 := []) (cs2 := ((w0.set 48 (.inl [0, 0, 0, 1, 0, 0, 0, 0])).set 66 (.inl [0, 0, 0, 1, 0, 0, 0, 0]))) rfl rfl rfl (Nat.le_of_ble_eq_true rfl) rfl rfl c258_X6_noTen (by decide) (by simp only [List.length_set]) ?_
    exact E_iret rfl rfl, (by simp only [List.length_set]; rfl), (by simp only [List.length_set]; rfl), ((ab_szs rfl).trans ((ab_szs rfl).trans rfl)), fun _ => rfl⟩
theorem f_costs_28 (a2 a3 : Int32) (ha2l : (1 : Int) ≤ a2.toInt) (ha3l : (0 : Int) ≤ a3.toInt) (ha3h : a3.toInt ≤ 7) : p1_P 6 100 4 188 [.ref 0, .int 1, .int a2, .int a3, .int 0] [.ref 65, .int 1, .int a2, .int a3, .int 0] :=
  ⟨(-13), (w0.set 48 (.inl [0, 0, 0, 1, 0, 0, 0, 0])), ((w0.set 48 (.inl [0, 0, 0, 1, 0, 0, 0, 0])).set 66 (.inl [0, 0, 0, 1, 0, 0, 0, 0])), by
    refine Ef.in (md := mX5_costs) (L := [some (.ref 0), some (.int 1), some (.int a2), some (.int a3), some (.int 0), none, none, none, none]) rfl (Nat.le_of_ble_eq_true rfl) rfl ?_
    refine E_iload_n rfl rfl ?_
    have e2 : Ev ab_Z0 1 47 [.int a3] w0 (some (.int 1), w0) := by
      refine Ef.in (md := mX4_isWish) (L := [some (.int a3)]) rfl (Nat.le_of_ble_eq_true rfl) rfl ?_
      refine E_iload_n rfl rfl ?_
      refine E_if (t := 14) (b := false) rfl rfl ((cn_lt (rfl : (a3).toInt = (a3).toInt) (by decide : (0 : Int32).toInt = 0)).trans (decide_eq_false (by omega))) ?_
      refine E_iload_n rfl rfl ?_
      refine E_bipush (x := 8) rfl (by decide) ?_
      refine E_ic (t := 14) (b := false) rfl rfl ((cn_ge (rfl : (a3).toInt = (a3).toInt) (by decide : (8 : Int32).toInt = 8)).trans (decide_eq_false (by omega))) ?_
      refine E_iconst (x := 1) rfl (by decide) ?_
      refine E_goto (t := 15) rfl rfl ?_
      exact E_iret rfl rfl
    refine E_callS (v := some (.int 1)) (As := [.int a3]) (r0 := []) (cs2 := w0) rfl rfl rfl (Nat.le_of_ble_eq_true rfl) rfl e2 (by decide) rfl ?_
    refine E_if (t := 31) (b := false) rfl rfl (by decide) ?_
    refine E_aload_n rfl rfl ?_
    refine E_iload_n rfl rfl ?_
    refine E_iload_n rfl rfl ?_
    refine E_bipush (x := 40) rfl (by decide) ?_
    refine E_iload rfl rfl ?_
    refine E_callS (v := some (.int 1)) (As := [.int 0]) (r0 := [.int 40, .int a2, .int 1, .ref 0]) (cs2 := w0) rfl rfl rfl (Nat.le_of_ble_eq_true rfl) rfl c230_X5_isOneOfTwo (by decide) rfl ?_
    refine E_if (t := 24) (b := true) rfl rfl (by decide) ?_
    refine E_iconst (x := 0) rfl (by decide) ?_
    have e22 : Ev ab_Z0 3 120 [.ref 0, .int 1, .int a2, .int 40, .int 0] w0 (some (.int 3), w0) := by
      refine Ef.in (md := mX5_whyNoTwos) (L := [some (.ref 0), some (.int 1), some (.int a2), some (.int 40), some (.int 0), none]) rfl (Nat.le_of_ble_eq_true rfl) rfl ?_
      refine E_aload_n rfl rfl ?_
      refine E_iload_n rfl rfl ?_
      refine E_callV (v := some (.int 3)) (As := [.ref 0, .int 1]) (r0 := []) (cs2 := w0) rfl rfl rfl (Nat.le_of_ble_eq_true rfl) rfl rfl c36_X5_whyNoRow (by decide) rfl ?_
      refine E_istore (L2 := [some (.ref 0), some (.int 1), some (.int a2), some (.int 40), some (.int 0), some (.int 3)]) rfl rfl ?_
      refine E_iload rfl rfl ?_
      refine E_if (t := 15) (b := false) rfl rfl (by decide) ?_
      refine E_iload rfl rfl ?_
      exact E_iret rfl rfl
    refine E_callV (v := some (.int 3)) (As := [.ref 0, .int 1, .int a2, .int 40, .int 0]) (r0 := []) (cs2 := w0) rfl rfl rfl (Nat.le_of_ble_eq_true rfl) rfl rfl e22 (by decide) rfl ?_
    refine E_goto (t := 32) rfl rfl ?_
    refine E_istore (L2 := [some (.ref 0), some (.int 1), some (.int a2), some (.int a3), some (.int 0), some (.int 3), none, none, none]) rfl rfl ?_
    refine E_iload rfl rfl ?_
    refine E_if (t := 56) (b := true) rfl rfl (by decide) ?_
    refine E_iload rfl rfl ?_
    refine E_if (t := 71) (b := false) rfl rfl (by decide) ?_
    refine E_aload_n rfl rfl ?_
    refine E_iload rfl rfl ?_
    refine E_callV (v := some (.int (-3))) (As := [.ref 0, .int 3]) (r0 := []) (cs2 := (w0.set 48 (.inl [0, 0, 0, 1, 0, 0, 0, 0]))) rfl rfl rfl (Nat.le_of_ble_eq_true rfl) rfl rfl c32_X5_refuse (by decide) (by simp only [List.length_set]) ?_
    refine E_bipush (x := 10) rfl (by decide) ?_
    refine E_isub (z := (-13)) rfl (by decide) ?_
    exact E_iret rfl rfl, by
    refine Ef.in (md := mX6_costs) (L := [some (.ref 65), some (.int 1), some (.int a2), some (.int a3), some (.int 0), none, none, none, none, none, none, none]) rfl (Nat.le_of_ble_eq_true rfl) rfl ?_
    refine E_aload_n rfl rfl ?_
    refine E_iload_n rfl rfl ?_
    refine E_iconst (x := 0) rfl (by decide) ?_
    refine E_bipush (x := 7) rfl (by decide) ?_
    have e5 : Ev ab_Z0 1 134 [.ref 65, .int a3, .int 0, .int 7] (w0.set 48 (.inl [0, 0, 0, 1, 0, 0, 0, 0])) (some (.int 1), (w0.set 48 (.inl [0, 0, 0, 1, 0, 0, 0, 0]))) := by
      refine Ef.in (md := mX6_isFrom) (L := [some (.ref 65), some (.int a3), some (.int 0), some (.int 7)]) rfl (Nat.le_of_ble_eq_true rfl) rfl ?_
      refine E_iload_n rfl rfl ?_
      refine E_iload_n rfl rfl ?_
      refine E_ic (t := 14) (b := false) rfl rfl ((cn_lt (rfl : (a3).toInt = (a3).toInt) (by decide : (0 : Int32).toInt = 0)).trans (decide_eq_false (by omega))) ?_
      refine E_iload_n rfl rfl ?_
      refine E_iload_n rfl rfl ?_
      refine E_ic (t := 14) (b := false) rfl rfl ((cn_gt (rfl : (a3).toInt = (a3).toInt) (by decide : (7 : Int32).toInt = 7)).trans (decide_eq_false (by omega))) ?_
      refine E_iconst (x := 1) rfl (by decide) ?_
      refine E_goto (t := 15) rfl rfl ?_
      exact E_iret rfl rfl
    refine E_callV (v := some (.int 1)) (As := [.ref 65, .int a3, .int 0, .int 7]) (r0 := []) (cs2 := (w0.set 48 (.inl [0, 0, 0, 1, 0, 0, 0, 0]))) rfl rfl rfl (Nat.le_of_ble_eq_true rfl) rfl rfl e5 (by decide) rfl ?_
    refine E_if (t := 15) (b := true) rfl rfl (by decide) ?_
    refine E_aload_n rfl rfl ?_
    refine E_iload_n rfl rfl ?_
    refine E_iload_n rfl rfl ?_
    refine E_bipush (x := 40) rfl (by decide) ?_
    refine E_iload rfl rfl ?_
    refine E_if (t := 31) (b := true) rfl rfl (by decide) ?_
    refine E_iconst (x := 1) rfl (by decide) ?_
    refine E_goto (t := 36) rfl rfl ?_
    have e26 : Ev ab_Z0 3 186 [.ref 65, .int 1, .int a2, .int 40, .int 1] (w0.set 48 (.inl [0, 0, 0, 1, 0, 0, 0, 0])) (some (.int (-3)), (w0.set 48 (.inl [0, 0, 0, 1, 0, 0, 0, 0]))) := by
      refine Ef.in (md := mX6_barsOf) (L := [some (.ref 65), some (.int 1), some (.int a2), some (.int 40), some (.int 1), none]) rfl (Nat.le_of_ble_eq_true rfl) rfl ?_
      refine E_aload_n rfl rfl ?_
      refine E_iload_n rfl rfl ?_
      refine E_callV (v := some (.int (-3))) (As := [.ref 65, .int 1]) (r0 := []) (cs2 := (w0.set 48 (.inl [0, 0, 0, 1, 0, 0, 0, 0]))) rfl rfl rfl (Nat.le_of_ble_eq_true rfl) rfl rfl c208_X6_wanted (by decide) rfl ?_
      refine E_istore (L2 := [some (.ref 65), some (.int 1), some (.int a2), some (.int 40), some (.int 1), some (.int (-3))]) rfl rfl ?_
      refine E_iload rfl rfl ?_
      refine E_if (t := 17) (b := false) rfl rfl (by decide) ?_
      refine E_iload rfl rfl ?_
      refine E_goto (t := 59) rfl rfl ?_
      exact E_iret rfl rfl
    refine E_callV (v := some (.int (-3))) (As := [.ref 65, .int 1, .int a2, .int 40, .int 1]) (r0 := []) (cs2 := (w0.set 48 (.inl [0, 0, 0, 1, 0, 0, 0, 0]))) rfl rfl rfl (Nat.le_of_ble_eq_true rfl) rfl rfl e26 (by decide) rfl ?_
    refine E_istore (L2 := [some (.ref 65), some (.int 1), some (.int a2), some (.int a3), some (.int 0), some (.int (-3)), none, none, none, none, none, none]) rfl rfl ?_
    refine E_iconst (x := 0) rfl (by decide) ?_
    refine E_istore (L2 := [some (.ref 65), some (.int 1), some (.int a2), some (.int a3), some (.int 0), some (.int (-3)), some (.int 0), none, none, none, none, none]) rfl rfl ?_
    refine E_iload rfl rfl ?_
    refine E_iload_n rfl rfl ?_
    refine E_ic (t := 80) (b := false) rfl rfl ((cn_ge (by decide : (0 : Int32).toInt = 0) (rfl : (a2).toInt = (a2).toInt)).trans (decide_eq_false (by omega))) ?_
    refine E_iload rfl rfl ?_
    refine E_if (t := 80) (b := true) rfl rfl (by decide) ?_
    refine E_iload rfl rfl ?_
    refine E_if (t := 92) (b := false) rfl rfl (by decide) ?_
    refine E_aload_n rfl rfl ?_
    refine E_iload rfl rfl ?_
    refine E_callV (v := some (.int (-13))) (As := [.ref 65, .int (-3)]) (r0 := []) (cs2 := ((w0.set 48 (.inl [0, 0, 0, 1, 0, 0, 0, 0])).set 66 (.inl [0, 0, 0, 1, 0, 0, 0, 0]))) rfl rfl rfl (Nat.le_of_ble_eq_true rfl) rfl rfl c258_X6_noTen (by decide) (by simp only [List.length_set]) ?_
    exact E_iret rfl rfl, (by simp only [List.length_set]; rfl), (by simp only [List.length_set]; rfl), ((ab_szs rfl).trans ((ab_szs rfl).trans rfl)), fun _ => rfl⟩
theorem f_costs_29 (a2 a3 : Int32) (ha2h : a2.toInt ≤ 0) (ha3l : (0 : Int) ≤ a3.toInt) (ha3h : a3.toInt ≤ 7) : p1_P 6 100 4 188 [.ref 0, .int 2, .int a2, .int a3, .int 0] [.ref 65, .int 2, .int a2, .int a3, .int 0] :=
  ⟨(-13), (w0.set 48 (.inl [0, 0, 0, 1, 0, 0, 0, 0])), ((w0.set 48 (.inl [0, 0, 0, 1, 0, 0, 0, 0])).set 66 (.inl [0, 0, 0, 1, 0, 0, 0, 0])), by
    refine Ef.in (md := mX5_costs) (L := [some (.ref 0), some (.int 2), some (.int a2), some (.int a3), some (.int 0), none, none, none, none]) rfl (Nat.le_of_ble_eq_true rfl) rfl ?_
    refine E_iload_n rfl rfl ?_
    have e2 : Ev ab_Z0 1 47 [.int a3] w0 (some (.int 1), w0) := by
      refine Ef.in (md := mX4_isWish) (L := [some (.int a3)]) rfl (Nat.le_of_ble_eq_true rfl) rfl ?_
      refine E_iload_n rfl rfl ?_
      refine E_if (t := 14) (b := false) rfl rfl ((cn_lt (rfl : (a3).toInt = (a3).toInt) (by decide : (0 : Int32).toInt = 0)).trans (decide_eq_false (by omega))) ?_
      refine E_iload_n rfl rfl ?_
      refine E_bipush (x := 8) rfl (by decide) ?_
      refine E_ic (t := 14) (b := false) rfl rfl ((cn_ge (rfl : (a3).toInt = (a3).toInt) (by decide : (8 : Int32).toInt = 8)).trans (decide_eq_false (by omega))) ?_
      refine E_iconst (x := 1) rfl (by decide) ?_
      refine E_goto (t := 15) rfl rfl ?_
      exact E_iret rfl rfl
    refine E_callS (v := some (.int 1)) (As := [.int a3]) (r0 := []) (cs2 := w0) rfl rfl rfl (Nat.le_of_ble_eq_true rfl) rfl e2 (by decide) rfl ?_
    refine E_if (t := 31) (b := false) rfl rfl (by decide) ?_
    refine E_aload_n rfl rfl ?_
    refine E_iload_n rfl rfl ?_
    refine E_iload_n rfl rfl ?_
    refine E_bipush (x := 40) rfl (by decide) ?_
    refine E_iload rfl rfl ?_
    refine E_callS (v := some (.int 1)) (As := [.int 0]) (r0 := [.int 40, .int a2, .int 2, .ref 0]) (cs2 := w0) rfl rfl rfl (Nat.le_of_ble_eq_true rfl) rfl c230_X5_isOneOfTwo (by decide) rfl ?_
    refine E_if (t := 24) (b := true) rfl rfl (by decide) ?_
    refine E_iconst (x := 0) rfl (by decide) ?_
    have e22 : Ev ab_Z0 3 120 [.ref 0, .int 2, .int a2, .int 40, .int 0] w0 (some (.int 3), w0) := by
      refine Ef.in (md := mX5_whyNoTwos) (L := [some (.ref 0), some (.int 2), some (.int a2), some (.int 40), some (.int 0), none]) rfl (Nat.le_of_ble_eq_true rfl) rfl ?_
      refine E_aload_n rfl rfl ?_
      refine E_iload_n rfl rfl ?_
      refine E_callV (v := some (.int 3)) (As := [.ref 0, .int 2]) (r0 := []) (cs2 := w0) rfl rfl rfl (Nat.le_of_ble_eq_true rfl) rfl rfl c40_X5_whyNoRow (by decide) rfl ?_
      refine E_istore (L2 := [some (.ref 0), some (.int 2), some (.int a2), some (.int 40), some (.int 0), some (.int 3)]) rfl rfl ?_
      refine E_iload rfl rfl ?_
      refine E_if (t := 15) (b := false) rfl rfl (by decide) ?_
      refine E_iload rfl rfl ?_
      exact E_iret rfl rfl
    refine E_callV (v := some (.int 3)) (As := [.ref 0, .int 2, .int a2, .int 40, .int 0]) (r0 := []) (cs2 := w0) rfl rfl rfl (Nat.le_of_ble_eq_true rfl) rfl rfl e22 (by decide) rfl ?_
    refine E_goto (t := 32) rfl rfl ?_
    refine E_istore (L2 := [some (.ref 0), some (.int 2), some (.int a2), some (.int a3), some (.int 0), some (.int 3), none, none, none]) rfl rfl ?_
    refine E_iload rfl rfl ?_
    refine E_if (t := 56) (b := true) rfl rfl (by decide) ?_
    refine E_iload rfl rfl ?_
    refine E_if (t := 71) (b := false) rfl rfl (by decide) ?_
    refine E_aload_n rfl rfl ?_
    refine E_iload rfl rfl ?_
    refine E_callV (v := some (.int (-3))) (As := [.ref 0, .int 3]) (r0 := []) (cs2 := (w0.set 48 (.inl [0, 0, 0, 1, 0, 0, 0, 0]))) rfl rfl rfl (Nat.le_of_ble_eq_true rfl) rfl rfl c32_X5_refuse (by decide) (by simp only [List.length_set]) ?_
    refine E_bipush (x := 10) rfl (by decide) ?_
    refine E_isub (z := (-13)) rfl (by decide) ?_
    exact E_iret rfl rfl, by
    refine Ef.in (md := mX6_costs) (L := [some (.ref 65), some (.int 2), some (.int a2), some (.int a3), some (.int 0), none, none, none, none, none, none, none]) rfl (Nat.le_of_ble_eq_true rfl) rfl ?_
    refine E_aload_n rfl rfl ?_
    refine E_iload_n rfl rfl ?_
    refine E_iconst (x := 0) rfl (by decide) ?_
    refine E_bipush (x := 7) rfl (by decide) ?_
    have e5 : Ev ab_Z0 1 134 [.ref 65, .int a3, .int 0, .int 7] (w0.set 48 (.inl [0, 0, 0, 1, 0, 0, 0, 0])) (some (.int 1), (w0.set 48 (.inl [0, 0, 0, 1, 0, 0, 0, 0]))) := by
      refine Ef.in (md := mX6_isFrom) (L := [some (.ref 65), some (.int a3), some (.int 0), some (.int 7)]) rfl (Nat.le_of_ble_eq_true rfl) rfl ?_
      refine E_iload_n rfl rfl ?_
      refine E_iload_n rfl rfl ?_
      refine E_ic (t := 14) (b := false) rfl rfl ((cn_lt (rfl : (a3).toInt = (a3).toInt) (by decide : (0 : Int32).toInt = 0)).trans (decide_eq_false (by omega))) ?_
      refine E_iload_n rfl rfl ?_
      refine E_iload_n rfl rfl ?_
      refine E_ic (t := 14) (b := false) rfl rfl ((cn_gt (rfl : (a3).toInt = (a3).toInt) (by decide : (7 : Int32).toInt = 7)).trans (decide_eq_false (by omega))) ?_
      refine E_iconst (x := 1) rfl (by decide) ?_
      refine E_goto (t := 15) rfl rfl ?_
      exact E_iret rfl rfl
    refine E_callV (v := some (.int 1)) (As := [.ref 65, .int a3, .int 0, .int 7]) (r0 := []) (cs2 := (w0.set 48 (.inl [0, 0, 0, 1, 0, 0, 0, 0]))) rfl rfl rfl (Nat.le_of_ble_eq_true rfl) rfl rfl e5 (by decide) rfl ?_
    refine E_if (t := 15) (b := true) rfl rfl (by decide) ?_
    refine E_aload_n rfl rfl ?_
    refine E_iload_n rfl rfl ?_
    refine E_iload_n rfl rfl ?_
    refine E_bipush (x := 40) rfl (by decide) ?_
    refine E_iload rfl rfl ?_
    refine E_if (t := 31) (b := true) rfl rfl (by decide) ?_
    refine E_iconst (x := 1) rfl (by decide) ?_
    refine E_goto (t := 36) rfl rfl ?_
    have e26 : Ev ab_Z0 3 186 [.ref 65, .int 2, .int a2, .int 40, .int 1] (w0.set 48 (.inl [0, 0, 0, 1, 0, 0, 0, 0])) (some (.int (-3)), (w0.set 48 (.inl [0, 0, 0, 1, 0, 0, 0, 0]))) := by
      refine Ef.in (md := mX6_barsOf) (L := [some (.ref 65), some (.int 2), some (.int a2), some (.int 40), some (.int 1), none]) rfl (Nat.le_of_ble_eq_true rfl) rfl ?_
      refine E_aload_n rfl rfl ?_
      refine E_iload_n rfl rfl ?_
      refine E_callV (v := some (.int (-3))) (As := [.ref 65, .int 2]) (r0 := []) (cs2 := (w0.set 48 (.inl [0, 0, 0, 1, 0, 0, 0, 0]))) rfl rfl rfl (Nat.le_of_ble_eq_true rfl) rfl rfl c211_X6_wanted (by decide) rfl ?_
      refine E_istore (L2 := [some (.ref 65), some (.int 2), some (.int a2), some (.int 40), some (.int 1), some (.int (-3))]) rfl rfl ?_
      refine E_iload rfl rfl ?_
      refine E_if (t := 17) (b := false) rfl rfl (by decide) ?_
      refine E_iload rfl rfl ?_
      refine E_goto (t := 59) rfl rfl ?_
      exact E_iret rfl rfl
    refine E_callV (v := some (.int (-3))) (As := [.ref 65, .int 2, .int a2, .int 40, .int 1]) (r0 := []) (cs2 := (w0.set 48 (.inl [0, 0, 0, 1, 0, 0, 0, 0]))) rfl rfl rfl (Nat.le_of_ble_eq_true rfl) rfl rfl e26 (by decide) rfl ?_
    refine E_istore (L2 := [some (.ref 65), some (.int 2), some (.int a2), some (.int a3), some (.int 0), some (.int (-3)), none, none, none, none, none, none]) rfl rfl ?_
    refine E_iconst (x := 0) rfl (by decide) ?_
    refine E_istore (L2 := [some (.ref 65), some (.int 2), some (.int a2), some (.int a3), some (.int 0), some (.int (-3)), some (.int 0), none, none, none, none, none]) rfl rfl ?_
    refine E_iload rfl rfl ?_
    refine E_iload_n rfl rfl ?_
    refine E_ic (t := 80) (b := true) rfl rfl ((cn_ge (by decide : (0 : Int32).toInt = 0) (rfl : (a2).toInt = (a2).toInt)).trans (decide_eq_true (by omega))) ?_
    refine E_iload rfl rfl ?_
    refine E_if (t := 92) (b := false) rfl rfl (by decide) ?_
    refine E_aload_n rfl rfl ?_
    refine E_iload rfl rfl ?_
    refine E_callV (v := some (.int (-13))) (As := [.ref 65, .int (-3)]) (r0 := []) (cs2 := ((w0.set 48 (.inl [0, 0, 0, 1, 0, 0, 0, 0])).set 66 (.inl [0, 0, 0, 1, 0, 0, 0, 0]))) rfl rfl rfl (Nat.le_of_ble_eq_true rfl) rfl rfl c258_X6_noTen (by decide) (by simp only [List.length_set]) ?_
    exact E_iret rfl rfl, (by simp only [List.length_set]; rfl), (by simp only [List.length_set]; rfl), ((ab_szs rfl).trans ((ab_szs rfl).trans rfl)), fun _ => rfl⟩
theorem f_costs_30 (a2 a3 : Int32) (ha2l : (1 : Int) ≤ a2.toInt) (ha3l : (0 : Int) ≤ a3.toInt) (ha3h : a3.toInt ≤ 7) : p1_P 6 100 4 188 [.ref 0, .int 2, .int a2, .int a3, .int 0] [.ref 65, .int 2, .int a2, .int a3, .int 0] :=
  ⟨(-13), (w0.set 48 (.inl [0, 0, 0, 1, 0, 0, 0, 0])), ((w0.set 48 (.inl [0, 0, 0, 1, 0, 0, 0, 0])).set 66 (.inl [0, 0, 0, 1, 0, 0, 0, 0])), by
    refine Ef.in (md := mX5_costs) (L := [some (.ref 0), some (.int 2), some (.int a2), some (.int a3), some (.int 0), none, none, none, none]) rfl (Nat.le_of_ble_eq_true rfl) rfl ?_
    refine E_iload_n rfl rfl ?_
    have e2 : Ev ab_Z0 1 47 [.int a3] w0 (some (.int 1), w0) := by
      refine Ef.in (md := mX4_isWish) (L := [some (.int a3)]) rfl (Nat.le_of_ble_eq_true rfl) rfl ?_
      refine E_iload_n rfl rfl ?_
      refine E_if (t := 14) (b := false) rfl rfl ((cn_lt (rfl : (a3).toInt = (a3).toInt) (by decide : (0 : Int32).toInt = 0)).trans (decide_eq_false (by omega))) ?_
      refine E_iload_n rfl rfl ?_
      refine E_bipush (x := 8) rfl (by decide) ?_
      refine E_ic (t := 14) (b := false) rfl rfl ((cn_ge (rfl : (a3).toInt = (a3).toInt) (by decide : (8 : Int32).toInt = 8)).trans (decide_eq_false (by omega))) ?_
      refine E_iconst (x := 1) rfl (by decide) ?_
      refine E_goto (t := 15) rfl rfl ?_
      exact E_iret rfl rfl
    refine E_callS (v := some (.int 1)) (As := [.int a3]) (r0 := []) (cs2 := w0) rfl rfl rfl (Nat.le_of_ble_eq_true rfl) rfl e2 (by decide) rfl ?_
    refine E_if (t := 31) (b := false) rfl rfl (by decide) ?_
    refine E_aload_n rfl rfl ?_
    refine E_iload_n rfl rfl ?_
    refine E_iload_n rfl rfl ?_
    refine E_bipush (x := 40) rfl (by decide) ?_
    refine E_iload rfl rfl ?_
    refine E_callS (v := some (.int 1)) (As := [.int 0]) (r0 := [.int 40, .int a2, .int 2, .ref 0]) (cs2 := w0) rfl rfl rfl (Nat.le_of_ble_eq_true rfl) rfl c230_X5_isOneOfTwo (by decide) rfl ?_
    refine E_if (t := 24) (b := true) rfl rfl (by decide) ?_
    refine E_iconst (x := 0) rfl (by decide) ?_
    have e22 : Ev ab_Z0 3 120 [.ref 0, .int 2, .int a2, .int 40, .int 0] w0 (some (.int 3), w0) := by
      refine Ef.in (md := mX5_whyNoTwos) (L := [some (.ref 0), some (.int 2), some (.int a2), some (.int 40), some (.int 0), none]) rfl (Nat.le_of_ble_eq_true rfl) rfl ?_
      refine E_aload_n rfl rfl ?_
      refine E_iload_n rfl rfl ?_
      refine E_callV (v := some (.int 3)) (As := [.ref 0, .int 2]) (r0 := []) (cs2 := w0) rfl rfl rfl (Nat.le_of_ble_eq_true rfl) rfl rfl c40_X5_whyNoRow (by decide) rfl ?_
      refine E_istore (L2 := [some (.ref 0), some (.int 2), some (.int a2), some (.int 40), some (.int 0), some (.int 3)]) rfl rfl ?_
      refine E_iload rfl rfl ?_
      refine E_if (t := 15) (b := false) rfl rfl (by decide) ?_
      refine E_iload rfl rfl ?_
      exact E_iret rfl rfl
    refine E_callV (v := some (.int 3)) (As := [.ref 0, .int 2, .int a2, .int 40, .int 0]) (r0 := []) (cs2 := w0) rfl rfl rfl (Nat.le_of_ble_eq_true rfl) rfl rfl e22 (by decide) rfl ?_
    refine E_goto (t := 32) rfl rfl ?_
    refine E_istore (L2 := [some (.ref 0), some (.int 2), some (.int a2), some (.int a3), some (.int 0), some (.int 3), none, none, none]) rfl rfl ?_
    refine E_iload rfl rfl ?_
    refine E_if (t := 56) (b := true) rfl rfl (by decide) ?_
    refine E_iload rfl rfl ?_
    refine E_if (t := 71) (b := false) rfl rfl (by decide) ?_
    refine E_aload_n rfl rfl ?_
    refine E_iload rfl rfl ?_
    refine E_callV (v := some (.int (-3))) (As := [.ref 0, .int 3]) (r0 := []) (cs2 := (w0.set 48 (.inl [0, 0, 0, 1, 0, 0, 0, 0]))) rfl rfl rfl (Nat.le_of_ble_eq_true rfl) rfl rfl c32_X5_refuse (by decide) (by simp only [List.length_set]) ?_
    refine E_bipush (x := 10) rfl (by decide) ?_
    refine E_isub (z := (-13)) rfl (by decide) ?_
    exact E_iret rfl rfl, by
    refine Ef.in (md := mX6_costs) (L := [some (.ref 65), some (.int 2), some (.int a2), some (.int a3), some (.int 0), none, none, none, none, none, none, none]) rfl (Nat.le_of_ble_eq_true rfl) rfl ?_
    refine E_aload_n rfl rfl ?_
    refine E_iload_n rfl rfl ?_
    refine E_iconst (x := 0) rfl (by decide) ?_
    refine E_bipush (x := 7) rfl (by decide) ?_
    have e5 : Ev ab_Z0 1 134 [.ref 65, .int a3, .int 0, .int 7] (w0.set 48 (.inl [0, 0, 0, 1, 0, 0, 0, 0])) (some (.int 1), (w0.set 48 (.inl [0, 0, 0, 1, 0, 0, 0, 0]))) := by
      refine Ef.in (md := mX6_isFrom) (L := [some (.ref 65), some (.int a3), some (.int 0), some (.int 7)]) rfl (Nat.le_of_ble_eq_true rfl) rfl ?_
      refine E_iload_n rfl rfl ?_
      refine E_iload_n rfl rfl ?_
      refine E_ic (t := 14) (b := false) rfl rfl ((cn_lt (rfl : (a3).toInt = (a3).toInt) (by decide : (0 : Int32).toInt = 0)).trans (decide_eq_false (by omega))) ?_
      refine E_iload_n rfl rfl ?_
      refine E_iload_n rfl rfl ?_
      refine E_ic (t := 14) (b := false) rfl rfl ((cn_gt (rfl : (a3).toInt = (a3).toInt) (by decide : (7 : Int32).toInt = 7)).trans (decide_eq_false (by omega))) ?_
      refine E_iconst (x := 1) rfl (by decide) ?_
      refine E_goto (t := 15) rfl rfl ?_
      exact E_iret rfl rfl
    refine E_callV (v := some (.int 1)) (As := [.ref 65, .int a3, .int 0, .int 7]) (r0 := []) (cs2 := (w0.set 48 (.inl [0, 0, 0, 1, 0, 0, 0, 0]))) rfl rfl rfl (Nat.le_of_ble_eq_true rfl) rfl rfl e5 (by decide) rfl ?_
    refine E_if (t := 15) (b := true) rfl rfl (by decide) ?_
    refine E_aload_n rfl rfl ?_
    refine E_iload_n rfl rfl ?_
    refine E_iload_n rfl rfl ?_
    refine E_bipush (x := 40) rfl (by decide) ?_
    refine E_iload rfl rfl ?_
    refine E_if (t := 31) (b := true) rfl rfl (by decide) ?_
    refine E_iconst (x := 1) rfl (by decide) ?_
    refine E_goto (t := 36) rfl rfl ?_
    have e26 : Ev ab_Z0 3 186 [.ref 65, .int 2, .int a2, .int 40, .int 1] (w0.set 48 (.inl [0, 0, 0, 1, 0, 0, 0, 0])) (some (.int (-3)), (w0.set 48 (.inl [0, 0, 0, 1, 0, 0, 0, 0]))) := by
      refine Ef.in (md := mX6_barsOf) (L := [some (.ref 65), some (.int 2), some (.int a2), some (.int 40), some (.int 1), none]) rfl (Nat.le_of_ble_eq_true rfl) rfl ?_
      refine E_aload_n rfl rfl ?_
      refine E_iload_n rfl rfl ?_
      refine E_callV (v := some (.int (-3))) (As := [.ref 65, .int 2]) (r0 := []) (cs2 := (w0.set 48 (.inl [0, 0, 0, 1, 0, 0, 0, 0]))) rfl rfl rfl (Nat.le_of_ble_eq_true rfl) rfl rfl c211_X6_wanted (by decide) rfl ?_
      refine E_istore (L2 := [some (.ref 65), some (.int 2), some (.int a2), some (.int 40), some (.int 1), some (.int (-3))]) rfl rfl ?_
      refine E_iload rfl rfl ?_
      refine E_if (t := 17) (b := false) rfl rfl (by decide) ?_
      refine E_iload rfl rfl ?_
      refine E_goto (t := 59) rfl rfl ?_
      exact E_iret rfl rfl
    refine E_callV (v := some (.int (-3))) (As := [.ref 65, .int 2, .int a2, .int 40, .int 1]) (r0 := []) (cs2 := (w0.set 48 (.inl [0, 0, 0, 1, 0, 0, 0, 0]))) rfl rfl rfl (Nat.le_of_ble_eq_true rfl) rfl rfl e26 (by decide) rfl ?_
    refine E_istore (L2 := [some (.ref 65), some (.int 2), some (.int a2), some (.int a3), some (.int 0), some (.int (-3)), none, none, none, none, none, none]) rfl rfl ?_
    refine E_iconst (x := 0) rfl (by decide) ?_
    refine E_istore (L2 := [some (.ref 65), some (.int 2), some (.int a2), some (.int a3), some (.int 0), some (.int (-3)), some (.int 0), none, none, none, none, none]) rfl rfl ?_
    refine E_iload rfl rfl ?_
    refine E_iload_n rfl rfl ?_
    refine E_ic (t := 80) (b := false) rfl rfl ((cn_ge (by decide : (0 : Int32).toInt = 0) (rfl : (a2).toInt = (a2).toInt)).trans (decide_eq_false (by omega))) ?_
    refine E_iload rfl rfl ?_
    refine E_if (t := 80) (b := true) rfl rfl (by decide) ?_
    refine E_iload rfl rfl ?_
    refine E_if (t := 92) (b := false) rfl rfl (by decide) ?_
    refine E_aload_n rfl rfl ?_
    refine E_iload rfl rfl ?_
    refine E_callV (v := some (.int (-13))) (As := [.ref 65, .int (-3)]) (r0 := []) (cs2 := ((w0.set 48 (.inl [0, 0, 0, 1, 0, 0, 0, 0])).set 66 (.inl [0, 0, 0, 1, 0, 0, 0, 0]))) rfl rfl rfl (Nat.le_of_ble_eq_true rfl) rfl rfl c258_X6_noTen (by decide) (by simp only [List.length_set]) ?_
    exact E_iret rfl rfl, (by simp only [List.length_set]; rfl), (by simp only [List.length_set]; rfl), ((ab_szs rfl).trans ((ab_szs rfl).trans rfl)), fun _ => rfl⟩
theorem f_costs_31 (a2 a3 : Int32) (ha2h : a2.toInt ≤ 0) (ha3l : (0 : Int) ≤ a3.toInt) (ha3h : a3.toInt ≤ 7) : p1_P 6 100 4 188 [.ref 0, .int 3, .int a2, .int a3, .int 0] [.ref 65, .int 3, .int a2, .int a3, .int 0] :=
  ⟨(-13), (w0.set 48 (.inl [0, 0, 0, 1, 0, 0, 0, 0])), ((w0.set 48 (.inl [0, 0, 0, 1, 0, 0, 0, 0])).set 66 (.inl [0, 0, 0, 1, 0, 0, 0, 0])), by
    refine Ef.in (md := mX5_costs) (L := [some (.ref 0), some (.int 3), some (.int a2), some (.int a3), some (.int 0), none, none, none, none]) rfl (Nat.le_of_ble_eq_true rfl) rfl ?_
    refine E_iload_n rfl rfl ?_
    have e2 : Ev ab_Z0 1 47 [.int a3] w0 (some (.int 1), w0) := by
      refine Ef.in (md := mX4_isWish) (L := [some (.int a3)]) rfl (Nat.le_of_ble_eq_true rfl) rfl ?_
      refine E_iload_n rfl rfl ?_
      refine E_if (t := 14) (b := false) rfl rfl ((cn_lt (rfl : (a3).toInt = (a3).toInt) (by decide : (0 : Int32).toInt = 0)).trans (decide_eq_false (by omega))) ?_
      refine E_iload_n rfl rfl ?_
      refine E_bipush (x := 8) rfl (by decide) ?_
      refine E_ic (t := 14) (b := false) rfl rfl ((cn_ge (rfl : (a3).toInt = (a3).toInt) (by decide : (8 : Int32).toInt = 8)).trans (decide_eq_false (by omega))) ?_
      refine E_iconst (x := 1) rfl (by decide) ?_
      refine E_goto (t := 15) rfl rfl ?_
      exact E_iret rfl rfl
    refine E_callS (v := some (.int 1)) (As := [.int a3]) (r0 := []) (cs2 := w0) rfl rfl rfl (Nat.le_of_ble_eq_true rfl) rfl e2 (by decide) rfl ?_
    refine E_if (t := 31) (b := false) rfl rfl (by decide) ?_
    refine E_aload_n rfl rfl ?_
    refine E_iload_n rfl rfl ?_
    refine E_iload_n rfl rfl ?_
    refine E_bipush (x := 40) rfl (by decide) ?_
    refine E_iload rfl rfl ?_
    refine E_callS (v := some (.int 1)) (As := [.int 0]) (r0 := [.int 40, .int a2, .int 3, .ref 0]) (cs2 := w0) rfl rfl rfl (Nat.le_of_ble_eq_true rfl) rfl c230_X5_isOneOfTwo (by decide) rfl ?_
    refine E_if (t := 24) (b := true) rfl rfl (by decide) ?_
    refine E_iconst (x := 0) rfl (by decide) ?_
    have e22 : Ev ab_Z0 3 120 [.ref 0, .int 3, .int a2, .int 40, .int 0] w0 (some (.int 3), w0) := by
      refine Ef.in (md := mX5_whyNoTwos) (L := [some (.ref 0), some (.int 3), some (.int a2), some (.int 40), some (.int 0), none]) rfl (Nat.le_of_ble_eq_true rfl) rfl ?_
      refine E_aload_n rfl rfl ?_
      refine E_iload_n rfl rfl ?_
      refine E_callV (v := some (.int 3)) (As := [.ref 0, .int 3]) (r0 := []) (cs2 := w0) rfl rfl rfl (Nat.le_of_ble_eq_true rfl) rfl rfl c44_X5_whyNoRow (by decide) rfl ?_
      refine E_istore (L2 := [some (.ref 0), some (.int 3), some (.int a2), some (.int 40), some (.int 0), some (.int 3)]) rfl rfl ?_
      refine E_iload rfl rfl ?_
      refine E_if (t := 15) (b := false) rfl rfl (by decide) ?_
      refine E_iload rfl rfl ?_
      exact E_iret rfl rfl
    refine E_callV (v := some (.int 3)) (As := [.ref 0, .int 3, .int a2, .int 40, .int 0]) (r0 := []) (cs2 := w0) rfl rfl rfl (Nat.le_of_ble_eq_true rfl) rfl rfl e22 (by decide) rfl ?_
    refine E_goto (t := 32) rfl rfl ?_
    refine E_istore (L2 := [some (.ref 0), some (.int 3), some (.int a2), some (.int a3), some (.int 0), some (.int 3), none, none, none]) rfl rfl ?_
    refine E_iload rfl rfl ?_
    refine E_if (t := 56) (b := true) rfl rfl (by decide) ?_
    refine E_iload rfl rfl ?_
    refine E_if (t := 71) (b := false) rfl rfl (by decide) ?_
    refine E_aload_n rfl rfl ?_
    refine E_iload rfl rfl ?_
    refine E_callV (v := some (.int (-3))) (As := [.ref 0, .int 3]) (r0 := []) (cs2 := (w0.set 48 (.inl [0, 0, 0, 1, 0, 0, 0, 0]))) rfl rfl rfl (Nat.le_of_ble_eq_true rfl) rfl rfl c32_X5_refuse (by decide) (by simp only [List.length_set]) ?_
    refine E_bipush (x := 10) rfl (by decide) ?_
    refine E_isub (z := (-13)) rfl (by decide) ?_
    exact E_iret rfl rfl, by
    refine Ef.in (md := mX6_costs) (L := [some (.ref 65), some (.int 3), some (.int a2), some (.int a3), some (.int 0), none, none, none, none, none, none, none]) rfl (Nat.le_of_ble_eq_true rfl) rfl ?_
    refine E_aload_n rfl rfl ?_
    refine E_iload_n rfl rfl ?_
    refine E_iconst (x := 0) rfl (by decide) ?_
    refine E_bipush (x := 7) rfl (by decide) ?_
    have e5 : Ev ab_Z0 1 134 [.ref 65, .int a3, .int 0, .int 7] (w0.set 48 (.inl [0, 0, 0, 1, 0, 0, 0, 0])) (some (.int 1), (w0.set 48 (.inl [0, 0, 0, 1, 0, 0, 0, 0]))) := by
      refine Ef.in (md := mX6_isFrom) (L := [some (.ref 65), some (.int a3), some (.int 0), some (.int 7)]) rfl (Nat.le_of_ble_eq_true rfl) rfl ?_
      refine E_iload_n rfl rfl ?_
      refine E_iload_n rfl rfl ?_
      refine E_ic (t := 14) (b := false) rfl rfl ((cn_lt (rfl : (a3).toInt = (a3).toInt) (by decide : (0 : Int32).toInt = 0)).trans (decide_eq_false (by omega))) ?_
      refine E_iload_n rfl rfl ?_
      refine E_iload_n rfl rfl ?_
      refine E_ic (t := 14) (b := false) rfl rfl ((cn_gt (rfl : (a3).toInt = (a3).toInt) (by decide : (7 : Int32).toInt = 7)).trans (decide_eq_false (by omega))) ?_
      refine E_iconst (x := 1) rfl (by decide) ?_
      refine E_goto (t := 15) rfl rfl ?_
      exact E_iret rfl rfl
    refine E_callV (v := some (.int 1)) (As := [.ref 65, .int a3, .int 0, .int 7]) (r0 := []) (cs2 := (w0.set 48 (.inl [0, 0, 0, 1, 0, 0, 0, 0]))) rfl rfl rfl (Nat.le_of_ble_eq_true rfl) rfl rfl e5 (by decide) rfl ?_
    refine E_if (t := 15) (b := true) rfl rfl (by decide) ?_
    refine E_aload_n rfl rfl ?_
    refine E_iload_n rfl rfl ?_
    refine E_iload_n rfl rfl ?_
    refine E_bipush (x := 40) rfl (by decide) ?_
    refine E_iload rfl rfl ?_
    refine E_if (t := 31) (b := true) rfl rfl (by decide) ?_
    refine E_iconst (x := 1) rfl (by decide) ?_
    refine E_goto (t := 36) rfl rfl ?_
    have e26 : Ev ab_Z0 3 186 [.ref 65, .int 3, .int a2, .int 40, .int 1] (w0.set 48 (.inl [0, 0, 0, 1, 0, 0, 0, 0])) (some (.int (-3)), (w0.set 48 (.inl [0, 0, 0, 1, 0, 0, 0, 0]))) := by
      refine Ef.in (md := mX6_barsOf) (L := [some (.ref 65), some (.int 3), some (.int a2), some (.int 40), some (.int 1), none]) rfl (Nat.le_of_ble_eq_true rfl) rfl ?_
      refine E_aload_n rfl rfl ?_
      refine E_iload_n rfl rfl ?_
      refine E_callV (v := some (.int (-3))) (As := [.ref 65, .int 3]) (r0 := []) (cs2 := (w0.set 48 (.inl [0, 0, 0, 1, 0, 0, 0, 0]))) rfl rfl rfl (Nat.le_of_ble_eq_true rfl) rfl rfl c214_X6_wanted (by decide) rfl ?_
      refine E_istore (L2 := [some (.ref 65), some (.int 3), some (.int a2), some (.int 40), some (.int 1), some (.int (-3))]) rfl rfl ?_
      refine E_iload rfl rfl ?_
      refine E_if (t := 17) (b := false) rfl rfl (by decide) ?_
      refine E_iload rfl rfl ?_
      refine E_goto (t := 59) rfl rfl ?_
      exact E_iret rfl rfl
    refine E_callV (v := some (.int (-3))) (As := [.ref 65, .int 3, .int a2, .int 40, .int 1]) (r0 := []) (cs2 := (w0.set 48 (.inl [0, 0, 0, 1, 0, 0, 0, 0]))) rfl rfl rfl (Nat.le_of_ble_eq_true rfl) rfl rfl e26 (by decide) rfl ?_
    refine E_istore (L2 := [some (.ref 65), some (.int 3), some (.int a2), some (.int a3), some (.int 0), some (.int (-3)), none, none, none, none, none, none]) rfl rfl ?_
    refine E_iconst (x := 0) rfl (by decide) ?_
    refine E_istore (L2 := [some (.ref 65), some (.int 3), some (.int a2), some (.int a3), some (.int 0), some (.int (-3)), some (.int 0), none, none, none, none, none]) rfl rfl ?_
    refine E_iload rfl rfl ?_
    refine E_iload_n rfl rfl ?_
    refine E_ic (t := 80) (b := true) rfl rfl ((cn_ge (by decide : (0 : Int32).toInt = 0) (rfl : (a2).toInt = (a2).toInt)).trans (decide_eq_true (by omega))) ?_
    refine E_iload rfl rfl ?_
    refine E_if (t := 92) (b := false) rfl rfl (by decide) ?_
    refine E_aload_n rfl rfl ?_
    refine E_iload rfl rfl ?_
    refine E_callV (v := some (.int (-13))) (As := [.ref 65, .int (-3)]) (r0 := []) (cs2 := ((w0.set 48 (.inl [0, 0, 0, 1, 0, 0, 0, 0])).set 66 (.inl [0, 0, 0, 1, 0, 0, 0, 0]))) rfl rfl rfl (Nat.le_of_ble_eq_true rfl) rfl rfl c258_X6_noTen (by decide) (by simp only [List.length_set]) ?_
    exact E_iret rfl rfl, (by simp only [List.length_set]; rfl), (by simp only [List.length_set]; rfl), ((ab_szs rfl).trans ((ab_szs rfl).trans rfl)), fun _ => rfl⟩
theorem f_costs_32 (a2 a3 : Int32) (ha2l : (1 : Int) ≤ a2.toInt) (ha3l : (0 : Int) ≤ a3.toInt) (ha3h : a3.toInt ≤ 7) : p1_P 6 100 4 188 [.ref 0, .int 3, .int a2, .int a3, .int 0] [.ref 65, .int 3, .int a2, .int a3, .int 0] :=
  ⟨(-13), (w0.set 48 (.inl [0, 0, 0, 1, 0, 0, 0, 0])), ((w0.set 48 (.inl [0, 0, 0, 1, 0, 0, 0, 0])).set 66 (.inl [0, 0, 0, 1, 0, 0, 0, 0])), by
    refine Ef.in (md := mX5_costs) (L := [some (.ref 0), some (.int 3), some (.int a2), some (.int a3), some (.int 0), none, none, none, none]) rfl (Nat.le_of_ble_eq_true rfl) rfl ?_
    refine E_iload_n rfl rfl ?_
    have e2 : Ev ab_Z0 1 47 [.int a3] w0 (some (.int 1), w0) := by
      refine Ef.in (md := mX4_isWish) (L := [some (.int a3)]) rfl (Nat.le_of_ble_eq_true rfl) rfl ?_
      refine E_iload_n rfl rfl ?_
      refine E_if (t := 14) (b := false) rfl rfl ((cn_lt (rfl : (a3).toInt = (a3).toInt) (by decide : (0 : Int32).toInt = 0)).trans (decide_eq_false (by omega))) ?_
      refine E_iload_n rfl rfl ?_
      refine E_bipush (x := 8) rfl (by decide) ?_
      refine E_ic (t := 14) (b := false) rfl rfl ((cn_ge (rfl : (a3).toInt = (a3).toInt) (by decide : (8 : Int32).toInt = 8)).trans (decide_eq_false (by omega))) ?_
      refine E_iconst (x := 1) rfl (by decide) ?_
      refine E_goto (t := 15) rfl rfl ?_
      exact E_iret rfl rfl
    refine E_callS (v := some (.int 1)) (As := [.int a3]) (r0 := []) (cs2 := w0) rfl rfl rfl (Nat.le_of_ble_eq_true rfl) rfl e2 (by decide) rfl ?_
    refine E_if (t := 31) (b := false) rfl rfl (by decide) ?_
    refine E_aload_n rfl rfl ?_
    refine E_iload_n rfl rfl ?_
    refine E_iload_n rfl rfl ?_
    refine E_bipush (x := 40) rfl (by decide) ?_
    refine E_iload rfl rfl ?_
    refine E_callS (v := some (.int 1)) (As := [.int 0]) (r0 := [.int 40, .int a2, .int 3, .ref 0]) (cs2 := w0) rfl rfl rfl (Nat.le_of_ble_eq_true rfl) rfl c230_X5_isOneOfTwo (by decide) rfl ?_
    refine E_if (t := 24) (b := true) rfl rfl (by decide) ?_
    refine E_iconst (x := 0) rfl (by decide) ?_
    have e22 : Ev ab_Z0 3 120 [.ref 0, .int 3, .int a2, .int 40, .int 0] w0 (some (.int 3), w0) := by
      refine Ef.in (md := mX5_whyNoTwos) (L := [some (.ref 0), some (.int 3), some (.int a2), some (.int 40), some (.int 0), none]) rfl (Nat.le_of_ble_eq_true rfl) rfl ?_
      refine E_aload_n rfl rfl ?_
      refine E_iload_n rfl rfl ?_
      refine E_callV (v := some (.int 3)) (As := [.ref 0, .int 3]) (r0 := []) (cs2 := w0) rfl rfl rfl (Nat.le_of_ble_eq_true rfl) rfl rfl c44_X5_whyNoRow (by decide) rfl ?_
      refine E_istore (L2 := [some (.ref 0), some (.int 3), some (.int a2), some (.int 40), some (.int 0), some (.int 3)]) rfl rfl ?_
      refine E_iload rfl rfl ?_
      refine E_if (t := 15) (b := false) rfl rfl (by decide) ?_
      refine E_iload rfl rfl ?_
      exact E_iret rfl rfl
    refine E_callV (v := some (.int 3)) (As := [.ref 0, .int 3, .int a2, .int 40, .int 0]) (r0 := []) (cs2 := w0) rfl rfl rfl (Nat.le_of_ble_eq_true rfl) rfl rfl e22 (by decide) rfl ?_
    refine E_goto (t := 32) rfl rfl ?_
    refine E_istore (L2 := [some (.ref 0), some (.int 3), some (.int a2), some (.int a3), some (.int 0), some (.int 3), none, none, none]) rfl rfl ?_
    refine E_iload rfl rfl ?_
    refine E_if (t := 56) (b := true) rfl rfl (by decide) ?_
    refine E_iload rfl rfl ?_
    refine E_if (t := 71) (b := false) rfl rfl (by decide) ?_
    refine E_aload_n rfl rfl ?_
    refine E_iload rfl rfl ?_
    refine E_callV (v := some (.int (-3))) (As := [.ref 0, .int 3]) (r0 := []) (cs2 := (w0.set 48 (.inl [0, 0, 0, 1, 0, 0, 0, 0]))) rfl rfl rfl (Nat.le_of_ble_eq_true rfl) rfl rfl c32_X5_refuse (by decide) (by simp only [List.length_set]) ?_
    refine E_bipush (x := 10) rfl (by decide) ?_
    refine E_isub (z := (-13)) rfl (by decide) ?_
    exact E_iret rfl rfl, by
    refine Ef.in (md := mX6_costs) (L := [some (.ref 65), some (.int 3), some (.int a2), some (.int a3), some (.int 0), none, none, none, none, none, none, none]) rfl (Nat.le_of_ble_eq_true rfl) rfl ?_
    refine E_aload_n rfl rfl ?_
    refine E_iload_n rfl rfl ?_
    refine E_iconst (x := 0) rfl (by decide) ?_
    refine E_bipush (x := 7) rfl (by decide) ?_
    have e5 : Ev ab_Z0 1 134 [.ref 65, .int a3, .int 0, .int 7] (w0.set 48 (.inl [0, 0, 0, 1, 0, 0, 0, 0])) (some (.int 1), (w0.set 48 (.inl [0, 0, 0, 1, 0, 0, 0, 0]))) := by
      refine Ef.in (md := mX6_isFrom) (L := [some (.ref 65), some (.int a3), some (.int 0), some (.int 7)]) rfl (Nat.le_of_ble_eq_true rfl) rfl ?_
      refine E_iload_n rfl rfl ?_
      refine E_iload_n rfl rfl ?_
      refine E_ic (t := 14) (b := false) rfl rfl ((cn_lt (rfl : (a3).toInt = (a3).toInt) (by decide : (0 : Int32).toInt = 0)).trans (decide_eq_false (by omega))) ?_
      refine E_iload_n rfl rfl ?_
      refine E_iload_n rfl rfl ?_
      refine E_ic (t := 14) (b := false) rfl rfl ((cn_gt (rfl : (a3).toInt = (a3).toInt) (by decide : (7 : Int32).toInt = 7)).trans (decide_eq_false (by omega))) ?_
      refine E_iconst (x := 1) rfl (by decide) ?_
      refine E_goto (t := 15) rfl rfl ?_
      exact E_iret rfl rfl
    refine E_callV (v := some (.int 1)) (As := [.ref 65, .int a3, .int 0, .int 7]) (r0 := []) (cs2 := (w0.set 48 (.inl [0, 0, 0, 1, 0, 0, 0, 0]))) rfl rfl rfl (Nat.le_of_ble_eq_true rfl) rfl rfl e5 (by decide) rfl ?_
    refine E_if (t := 15) (b := true) rfl rfl (by decide) ?_
    refine E_aload_n rfl rfl ?_
    refine E_iload_n rfl rfl ?_
    refine E_iload_n rfl rfl ?_
    refine E_bipush (x := 40) rfl (by decide) ?_
    refine E_iload rfl rfl ?_
    refine E_if (t := 31) (b := true) rfl rfl (by decide) ?_
    refine E_iconst (x := 1) rfl (by decide) ?_
    refine E_goto (t := 36) rfl rfl ?_
    have e26 : Ev ab_Z0 3 186 [.ref 65, .int 3, .int a2, .int 40, .int 1] (w0.set 48 (.inl [0, 0, 0, 1, 0, 0, 0, 0])) (some (.int (-3)), (w0.set 48 (.inl [0, 0, 0, 1, 0, 0, 0, 0]))) := by
      refine Ef.in (md := mX6_barsOf) (L := [some (.ref 65), some (.int 3), some (.int a2), some (.int 40), some (.int 1), none]) rfl (Nat.le_of_ble_eq_true rfl) rfl ?_
      refine E_aload_n rfl rfl ?_
      refine E_iload_n rfl rfl ?_
      refine E_callV (v := some (.int (-3))) (As := [.ref 65, .int 3]) (r0 := []) (cs2 := (w0.set 48 (.inl [0, 0, 0, 1, 0, 0, 0, 0]))) rfl rfl rfl (Nat.le_of_ble_eq_true rfl) rfl rfl c214_X6_wanted (by decide) rfl ?_
      refine E_istore (L2 := [some (.ref 65), some (.int 3), some (.int a2), some (.int 40), some (.int 1), some (.int (-3))]) rfl rfl ?_
      refine E_iload rfl rfl ?_
      refine E_if (t := 17) (b := false) rfl rfl (by decide) ?_
      refine E_iload rfl rfl ?_
      refine E_goto (t := 59) rfl rfl ?_
      exact E_iret rfl rfl
    refine E_callV (v := some (.int (-3))) (As := [.ref 65, .int 3, .int a2, .int 40, .int 1]) (r0 := []) (cs2 := (w0.set 48 (.inl [0, 0, 0, 1, 0, 0, 0, 0]))) rfl rfl rfl (Nat.le_of_ble_eq_true rfl) rfl rfl e26 (by decide) rfl ?_
    refine E_istore (L2 := [some (.ref 65), some (.int 3), some (.int a2), some (.int a3), some (.int 0), some (.int (-3)), none, none, none, none, none, none]) rfl rfl ?_
    refine E_iconst (x := 0) rfl (by decide) ?_
    refine E_istore (L2 := [some (.ref 65), some (.int 3), some (.int a2), some (.int a3), some (.int 0), some (.int (-3)), some (.int 0), none, none, none, none, none]) rfl rfl ?_
    refine E_iload rfl rfl ?_
    refine E_iload_n rfl rfl ?_
    refine E_ic (t := 80) (b := false) rfl rfl ((cn_ge (by decide : (0 : Int32).toInt = 0) (rfl : (a2).toInt = (a2).toInt)).trans (decide_eq_false (by omega))) ?_
    refine E_iload rfl rfl ?_
    refine E_if (t := 80) (b := true) rfl rfl (by decide) ?_
    refine E_iload rfl rfl ?_
    refine E_if (t := 92) (b := false) rfl rfl (by decide) ?_
    refine E_aload_n rfl rfl ?_
    refine E_iload rfl rfl ?_
    refine E_callV (v := some (.int (-13))) (As := [.ref 65, .int (-3)]) (r0 := []) (cs2 := ((w0.set 48 (.inl [0, 0, 0, 1, 0, 0, 0, 0])).set 66 (.inl [0, 0, 0, 1, 0, 0, 0, 0]))) rfl rfl rfl (Nat.le_of_ble_eq_true rfl) rfl rfl c258_X6_noTen (by decide) (by simp only [List.length_set]) ?_
    exact E_iret rfl rfl, (by simp only [List.length_set]; rfl), (by simp only [List.length_set]; rfl), ((ab_szs rfl).trans ((ab_szs rfl).trans rfl)), fun _ => rfl⟩
theorem f_costs_33 (a2 a3 : Int32) (ha2h : a2.toInt ≤ 0) (ha3l : (0 : Int) ≤ a3.toInt) (ha3h : a3.toInt ≤ 7) : p1_P 6 100 4 188 [.ref 0, .int 4, .int a2, .int a3, .int 0] [.ref 65, .int 4, .int a2, .int a3, .int 0] :=
  ⟨(-13), (w0.set 48 (.inl [0, 0, 0, 1, 0, 0, 0, 0])), ((w0.set 48 (.inl [0, 0, 0, 1, 0, 0, 0, 0])).set 66 (.inl [0, 0, 0, 1, 0, 0, 0, 0])), by
    refine Ef.in (md := mX5_costs) (L := [some (.ref 0), some (.int 4), some (.int a2), some (.int a3), some (.int 0), none, none, none, none]) rfl (Nat.le_of_ble_eq_true rfl) rfl ?_
    refine E_iload_n rfl rfl ?_
    have e2 : Ev ab_Z0 1 47 [.int a3] w0 (some (.int 1), w0) := by
      refine Ef.in (md := mX4_isWish) (L := [some (.int a3)]) rfl (Nat.le_of_ble_eq_true rfl) rfl ?_
      refine E_iload_n rfl rfl ?_
      refine E_if (t := 14) (b := false) rfl rfl ((cn_lt (rfl : (a3).toInt = (a3).toInt) (by decide : (0 : Int32).toInt = 0)).trans (decide_eq_false (by omega))) ?_
      refine E_iload_n rfl rfl ?_
      refine E_bipush (x := 8) rfl (by decide) ?_
      refine E_ic (t := 14) (b := false) rfl rfl ((cn_ge (rfl : (a3).toInt = (a3).toInt) (by decide : (8 : Int32).toInt = 8)).trans (decide_eq_false (by omega))) ?_
      refine E_iconst (x := 1) rfl (by decide) ?_
      refine E_goto (t := 15) rfl rfl ?_
      exact E_iret rfl rfl
    refine E_callS (v := some (.int 1)) (As := [.int a3]) (r0 := []) (cs2 := w0) rfl rfl rfl (Nat.le_of_ble_eq_true rfl) rfl e2 (by decide) rfl ?_
    refine E_if (t := 31) (b := false) rfl rfl (by decide) ?_
    refine E_aload_n rfl rfl ?_
    refine E_iload_n rfl rfl ?_
    refine E_iload_n rfl rfl ?_
    refine E_bipush (x := 40) rfl (by decide) ?_
    refine E_iload rfl rfl ?_
    refine E_callS (v := some (.int 1)) (As := [.int 0]) (r0 := [.int 40, .int a2, .int 4, .ref 0]) (cs2 := w0) rfl rfl rfl (Nat.le_of_ble_eq_true rfl) rfl c230_X5_isOneOfTwo (by decide) rfl ?_
    refine E_if (t := 24) (b := true) rfl rfl (by decide) ?_
    refine E_iconst (x := 0) rfl (by decide) ?_
    have e22 : Ev ab_Z0 3 120 [.ref 0, .int 4, .int a2, .int 40, .int 0] w0 (some (.int 3), w0) := by
      refine Ef.in (md := mX5_whyNoTwos) (L := [some (.ref 0), some (.int 4), some (.int a2), some (.int 40), some (.int 0), none]) rfl (Nat.le_of_ble_eq_true rfl) rfl ?_
      refine E_aload_n rfl rfl ?_
      refine E_iload_n rfl rfl ?_
      refine E_callV (v := some (.int 3)) (As := [.ref 0, .int 4]) (r0 := []) (cs2 := w0) rfl rfl rfl (Nat.le_of_ble_eq_true rfl) rfl rfl c48_X5_whyNoRow (by decide) rfl ?_
      refine E_istore (L2 := [some (.ref 0), some (.int 4), some (.int a2), some (.int 40), some (.int 0), some (.int 3)]) rfl rfl ?_
      refine E_iload rfl rfl ?_
      refine E_if (t := 15) (b := false) rfl rfl (by decide) ?_
      refine E_iload rfl rfl ?_
      exact E_iret rfl rfl
    refine E_callV (v := some (.int 3)) (As := [.ref 0, .int 4, .int a2, .int 40, .int 0]) (r0 := []) (cs2 := w0) rfl rfl rfl (Nat.le_of_ble_eq_true rfl) rfl rfl e22 (by decide) rfl ?_
    refine E_goto (t := 32) rfl rfl ?_
    refine E_istore (L2 := [some (.ref 0), some (.int 4), some (.int a2), some (.int a3), some (.int 0), some (.int 3), none, none, none]) rfl rfl ?_
    refine E_iload rfl rfl ?_
    refine E_if (t := 56) (b := true) rfl rfl (by decide) ?_
    refine E_iload rfl rfl ?_
    refine E_if (t := 71) (b := false) rfl rfl (by decide) ?_
    refine E_aload_n rfl rfl ?_
    refine E_iload rfl rfl ?_
    refine E_callV (v := some (.int (-3))) (As := [.ref 0, .int 3]) (r0 := []) (cs2 := (w0.set 48 (.inl [0, 0, 0, 1, 0, 0, 0, 0]))) rfl rfl rfl (Nat.le_of_ble_eq_true rfl) rfl rfl c32_X5_refuse (by decide) (by simp only [List.length_set]) ?_
    refine E_bipush (x := 10) rfl (by decide) ?_
    refine E_isub (z := (-13)) rfl (by decide) ?_
    exact E_iret rfl rfl, by
    refine Ef.in (md := mX6_costs) (L := [some (.ref 65), some (.int 4), some (.int a2), some (.int a3), some (.int 0), none, none, none, none, none, none, none]) rfl (Nat.le_of_ble_eq_true rfl) rfl ?_
    refine E_aload_n rfl rfl ?_
    refine E_iload_n rfl rfl ?_
    refine E_iconst (x := 0) rfl (by decide) ?_
    refine E_bipush (x := 7) rfl (by decide) ?_
    have e5 : Ev ab_Z0 1 134 [.ref 65, .int a3, .int 0, .int 7] (w0.set 48 (.inl [0, 0, 0, 1, 0, 0, 0, 0])) (some (.int 1), (w0.set 48 (.inl [0, 0, 0, 1, 0, 0, 0, 0]))) := by
      refine Ef.in (md := mX6_isFrom) (L := [some (.ref 65), some (.int a3), some (.int 0), some (.int 7)]) rfl (Nat.le_of_ble_eq_true rfl) rfl ?_
      refine E_iload_n rfl rfl ?_
      refine E_iload_n rfl rfl ?_
      refine E_ic (t := 14) (b := false) rfl rfl ((cn_lt (rfl : (a3).toInt = (a3).toInt) (by decide : (0 : Int32).toInt = 0)).trans (decide_eq_false (by omega))) ?_
      refine E_iload_n rfl rfl ?_
      refine E_iload_n rfl rfl ?_
      refine E_ic (t := 14) (b := false) rfl rfl ((cn_gt (rfl : (a3).toInt = (a3).toInt) (by decide : (7 : Int32).toInt = 7)).trans (decide_eq_false (by omega))) ?_
      refine E_iconst (x := 1) rfl (by decide) ?_
      refine E_goto (t := 15) rfl rfl ?_
      exact E_iret rfl rfl
    refine E_callV (v := some (.int 1)) (As := [.ref 65, .int a3, .int 0, .int 7]) (r0 := []) (cs2 := (w0.set 48 (.inl [0, 0, 0, 1, 0, 0, 0, 0]))) rfl rfl rfl (Nat.le_of_ble_eq_true rfl) rfl rfl e5 (by decide) rfl ?_
    refine E_if (t := 15) (b := true) rfl rfl (by decide) ?_
    refine E_aload_n rfl rfl ?_
    refine E_iload_n rfl rfl ?_
    refine E_iload_n rfl rfl ?_
    refine E_bipush (x := 40) rfl (by decide) ?_
    refine E_iload rfl rfl ?_
    refine E_if (t := 31) (b := true) rfl rfl (by decide) ?_
    refine E_iconst (x := 1) rfl (by decide) ?_
    refine E_goto (t := 36) rfl rfl ?_
    have e26 : Ev ab_Z0 3 186 [.ref 65, .int 4, .int a2, .int 40, .int 1] (w0.set 48 (.inl [0, 0, 0, 1, 0, 0, 0, 0])) (some (.int (-3)), (w0.set 48 (.inl [0, 0, 0, 1, 0, 0, 0, 0]))) := by
      refine Ef.in (md := mX6_barsOf) (L := [some (.ref 65), some (.int 4), some (.int a2), some (.int 40), some (.int 1), none]) rfl (Nat.le_of_ble_eq_true rfl) rfl ?_
      refine E_aload_n rfl rfl ?_
      refine E_iload_n rfl rfl ?_
      refine E_callV (v := some (.int (-3))) (As := [.ref 65, .int 4]) (r0 := []) (cs2 := (w0.set 48 (.inl [0, 0, 0, 1, 0, 0, 0, 0]))) rfl rfl rfl (Nat.le_of_ble_eq_true rfl) rfl rfl c217_X6_wanted (by decide) rfl ?_
      refine E_istore (L2 := [some (.ref 65), some (.int 4), some (.int a2), some (.int 40), some (.int 1), some (.int (-3))]) rfl rfl ?_
      refine E_iload rfl rfl ?_
      refine E_if (t := 17) (b := false) rfl rfl (by decide) ?_
      refine E_iload rfl rfl ?_
      refine E_goto (t := 59) rfl rfl ?_
      exact E_iret rfl rfl
    refine E_callV (v := some (.int (-3))) (As := [.ref 65, .int 4, .int a2, .int 40, .int 1]) (r0 := []) (cs2 := (w0.set 48 (.inl [0, 0, 0, 1, 0, 0, 0, 0]))) rfl rfl rfl (Nat.le_of_ble_eq_true rfl) rfl rfl e26 (by decide) rfl ?_
    refine E_istore (L2 := [some (.ref 65), some (.int 4), some (.int a2), some (.int a3), some (.int 0), some (.int (-3)), none, none, none, none, none, none]) rfl rfl ?_
    refine E_iconst (x := 0) rfl (by decide) ?_
    refine E_istore (L2 := [some (.ref 65), some (.int 4), some (.int a2), some (.int a3), some (.int 0), some (.int (-3)), some (.int 0), none, none, none, none, none]) rfl rfl ?_
    refine E_iload rfl rfl ?_
    refine E_iload_n rfl rfl ?_
    refine E_ic (t := 80) (b := true) rfl rfl ((cn_ge (by decide : (0 : Int32).toInt = 0) (rfl : (a2).toInt = (a2).toInt)).trans (decide_eq_true (by omega))) ?_
    refine E_iload rfl rfl ?_
    refine E_if (t := 92) (b := false) rfl rfl (by decide) ?_
    refine E_aload_n rfl rfl ?_
    refine E_iload rfl rfl ?_
    refine E_callV (v := some (.int (-13))) (As := [.ref 65, .int (-3)]) (r0 := []) (cs2 := ((w0.set 48 (.inl [0, 0, 0, 1, 0, 0, 0, 0])).set 66 (.inl [0, 0, 0, 1, 0, 0, 0, 0]))) rfl rfl rfl (Nat.le_of_ble_eq_true rfl) rfl rfl c258_X6_noTen (by decide) (by simp only [List.length_set]) ?_
    exact E_iret rfl rfl, (by simp only [List.length_set]; rfl), (by simp only [List.length_set]; rfl), ((ab_szs rfl).trans ((ab_szs rfl).trans rfl)), fun _ => rfl⟩
theorem f_costs_34 (a2 a3 : Int32) (ha2l : (1 : Int) ≤ a2.toInt) (ha3l : (0 : Int) ≤ a3.toInt) (ha3h : a3.toInt ≤ 7) : p1_P 6 100 4 188 [.ref 0, .int 4, .int a2, .int a3, .int 0] [.ref 65, .int 4, .int a2, .int a3, .int 0] :=
  ⟨(-13), (w0.set 48 (.inl [0, 0, 0, 1, 0, 0, 0, 0])), ((w0.set 48 (.inl [0, 0, 0, 1, 0, 0, 0, 0])).set 66 (.inl [0, 0, 0, 1, 0, 0, 0, 0])), by
    refine Ef.in (md := mX5_costs) (L := [some (.ref 0), some (.int 4), some (.int a2), some (.int a3), some (.int 0), none, none, none, none]) rfl (Nat.le_of_ble_eq_true rfl) rfl ?_
    refine E_iload_n rfl rfl ?_
    have e2 : Ev ab_Z0 1 47 [.int a3] w0 (some (.int 1), w0) := by
      refine Ef.in (md := mX4_isWish) (L := [some (.int a3)]) rfl (Nat.le_of_ble_eq_true rfl) rfl ?_
      refine E_iload_n rfl rfl ?_
      refine E_if (t := 14) (b := false) rfl rfl ((cn_lt (rfl : (a3).toInt = (a3).toInt) (by decide : (0 : Int32).toInt = 0)).trans (decide_eq_false (by omega))) ?_
      refine E_iload_n rfl rfl ?_
      refine E_bipush (x := 8) rfl (by decide) ?_
      refine E_ic (t := 14) (b := false) rfl rfl ((cn_ge (rfl : (a3).toInt = (a3).toInt) (by decide : (8 : Int32).toInt = 8)).trans (decide_eq_false (by omega))) ?_
      refine E_iconst (x := 1) rfl (by decide) ?_
      refine E_goto (t := 15) rfl rfl ?_
      exact E_iret rfl rfl
    refine E_callS (v := some (.int 1)) (As := [.int a3]) (r0 := []) (cs2 := w0) rfl rfl rfl (Nat.le_of_ble_eq_true rfl) rfl e2 (by decide) rfl ?_
    refine E_if (t := 31) (b := false) rfl rfl (by decide) ?_
    refine E_aload_n rfl rfl ?_
    refine E_iload_n rfl rfl ?_
    refine E_iload_n rfl rfl ?_
    refine E_bipush (x := 40) rfl (by decide) ?_
    refine E_iload rfl rfl ?_
    refine E_callS (v := some (.int 1)) (As := [.int 0]) (r0 := [.int 40, .int a2, .int 4, .ref 0]) (cs2 := w0) rfl rfl rfl (Nat.le_of_ble_eq_true rfl) rfl c230_X5_isOneOfTwo (by decide) rfl ?_
    refine E_if (t := 24) (b := true) rfl rfl (by decide) ?_
    refine E_iconst (x := 0) rfl (by decide) ?_
    have e22 : Ev ab_Z0 3 120 [.ref 0, .int 4, .int a2, .int 40, .int 0] w0 (some (.int 3), w0) := by
      refine Ef.in (md := mX5_whyNoTwos) (L := [some (.ref 0), some (.int 4), some (.int a2), some (.int 40), some (.int 0), none]) rfl (Nat.le_of_ble_eq_true rfl) rfl ?_
      refine E_aload_n rfl rfl ?_
      refine E_iload_n rfl rfl ?_
      refine E_callV (v := some (.int 3)) (As := [.ref 0, .int 4]) (r0 := []) (cs2 := w0) rfl rfl rfl (Nat.le_of_ble_eq_true rfl) rfl rfl c48_X5_whyNoRow (by decide) rfl ?_
      refine E_istore (L2 := [some (.ref 0), some (.int 4), some (.int a2), some (.int 40), some (.int 0), some (.int 3)]) rfl rfl ?_
      refine E_iload rfl rfl ?_
      refine E_if (t := 15) (b := false) rfl rfl (by decide) ?_
      refine E_iload rfl rfl ?_
      exact E_iret rfl rfl
    refine E_callV (v := some (.int 3)) (As := [.ref 0, .int 4, .int a2, .int 40, .int 0]) (r0 := []) (cs2 := w0) rfl rfl rfl (Nat.le_of_ble_eq_true rfl) rfl rfl e22 (by decide) rfl ?_
    refine E_goto (t := 32) rfl rfl ?_
    refine E_istore (L2 := [some (.ref 0), some (.int 4), some (.int a2), some (.int a3), some (.int 0), some (.int 3), none, none, none]) rfl rfl ?_
    refine E_iload rfl rfl ?_
    refine E_if (t := 56) (b := true) rfl rfl (by decide) ?_
    refine E_iload rfl rfl ?_
    refine E_if (t := 71) (b := false) rfl rfl (by decide) ?_
    refine E_aload_n rfl rfl ?_
    refine E_iload rfl rfl ?_
    refine E_callV (v := some (.int (-3))) (As := [.ref 0, .int 3]) (r0 := []) (cs2 := (w0.set 48 (.inl [0, 0, 0, 1, 0, 0, 0, 0]))) rfl rfl rfl (Nat.le_of_ble_eq_true rfl) rfl rfl c32_X5_refuse (by decide) (by simp only [List.length_set]) ?_
    refine E_bipush (x := 10) rfl (by decide) ?_
    refine E_isub (z := (-13)) rfl (by decide) ?_
    exact E_iret rfl rfl, by
    refine Ef.in (md := mX6_costs) (L := [some (.ref 65), some (.int 4), some (.int a2), some (.int a3), some (.int 0), none, none, none, none, none, none, none]) rfl (Nat.le_of_ble_eq_true rfl) rfl ?_
    refine E_aload_n rfl rfl ?_
    refine E_iload_n rfl rfl ?_
    refine E_iconst (x := 0) rfl (by decide) ?_
    refine E_bipush (x := 7) rfl (by decide) ?_
    have e5 : Ev ab_Z0 1 134 [.ref 65, .int a3, .int 0, .int 7] (w0.set 48 (.inl [0, 0, 0, 1, 0, 0, 0, 0])) (some (.int 1), (w0.set 48 (.inl [0, 0, 0, 1, 0, 0, 0, 0]))) := by
      refine Ef.in (md := mX6_isFrom) (L := [some (.ref 65), some (.int a3), some (.int 0), some (.int 7)]) rfl (Nat.le_of_ble_eq_true rfl) rfl ?_
      refine E_iload_n rfl rfl ?_
      refine E_iload_n rfl rfl ?_
      refine E_ic (t := 14) (b := false) rfl rfl ((cn_lt (rfl : (a3).toInt = (a3).toInt) (by decide : (0 : Int32).toInt = 0)).trans (decide_eq_false (by omega))) ?_
      refine E_iload_n rfl rfl ?_
      refine E_iload_n rfl rfl ?_
      refine E_ic (t := 14) (b := false) rfl rfl ((cn_gt (rfl : (a3).toInt = (a3).toInt) (by decide : (7 : Int32).toInt = 7)).trans (decide_eq_false (by omega))) ?_
      refine E_iconst (x := 1) rfl (by decide) ?_
      refine E_goto (t := 15) rfl rfl ?_
      exact E_iret rfl rfl
    refine E_callV (v := some (.int 1)) (As := [.ref 65, .int a3, .int 0, .int 7]) (r0 := []) (cs2 := (w0.set 48 (.inl [0, 0, 0, 1, 0, 0, 0, 0]))) rfl rfl rfl (Nat.le_of_ble_eq_true rfl) rfl rfl e5 (by decide) rfl ?_
    refine E_if (t := 15) (b := true) rfl rfl (by decide) ?_
    refine E_aload_n rfl rfl ?_
    refine E_iload_n rfl rfl ?_
    refine E_iload_n rfl rfl ?_
    refine E_bipush (x := 40) rfl (by decide) ?_
    refine E_iload rfl rfl ?_
    refine E_if (t := 31) (b := true) rfl rfl (by decide) ?_
    refine E_iconst (x := 1) rfl (by decide) ?_
    refine E_goto (t := 36) rfl rfl ?_
    have e26 : Ev ab_Z0 3 186 [.ref 65, .int 4, .int a2, .int 40, .int 1] (w0.set 48 (.inl [0, 0, 0, 1, 0, 0, 0, 0])) (some (.int (-3)), (w0.set 48 (.inl [0, 0, 0, 1, 0, 0, 0, 0]))) := by
      refine Ef.in (md := mX6_barsOf) (L := [some (.ref 65), some (.int 4), some (.int a2), some (.int 40), some (.int 1), none]) rfl (Nat.le_of_ble_eq_true rfl) rfl ?_
      refine E_aload_n rfl rfl ?_
      refine E_iload_n rfl rfl ?_
      refine E_callV (v := some (.int (-3))) (As := [.ref 65, .int 4]) (r0 := []) (cs2 := (w0.set 48 (.inl [0, 0, 0, 1, 0, 0, 0, 0]))) rfl rfl rfl (Nat.le_of_ble_eq_true rfl) rfl rfl c217_X6_wanted (by decide) rfl ?_
      refine E_istore (L2 := [some (.ref 65), some (.int 4), some (.int a2), some (.int 40), some (.int 1), some (.int (-3))]) rfl rfl ?_
      refine E_iload rfl rfl ?_
      refine E_if (t := 17) (b := false) rfl rfl (by decide) ?_
      refine E_iload rfl rfl ?_
      refine E_goto (t := 59) rfl rfl ?_
      exact E_iret rfl rfl
    refine E_callV (v := some (.int (-3))) (As := [.ref 65, .int 4, .int a2, .int 40, .int 1]) (r0 := []) (cs2 := (w0.set 48 (.inl [0, 0, 0, 1, 0, 0, 0, 0]))) rfl rfl rfl (Nat.le_of_ble_eq_true rfl) rfl rfl e26 (by decide) rfl ?_
    refine E_istore (L2 := [some (.ref 65), some (.int 4), some (.int a2), some (.int a3), some (.int 0), some (.int (-3)), none, none, none, none, none, none]) rfl rfl ?_
    refine E_iconst (x := 0) rfl (by decide) ?_
    refine E_istore (L2 := [some (.ref 65), some (.int 4), some (.int a2), some (.int a3), some (.int 0), some (.int (-3)), some (.int 0), none, none, none, none, none]) rfl rfl ?_
    refine E_iload rfl rfl ?_
    refine E_iload_n rfl rfl ?_
    refine E_ic (t := 80) (b := false) rfl rfl ((cn_ge (by decide : (0 : Int32).toInt = 0) (rfl : (a2).toInt = (a2).toInt)).trans (decide_eq_false (by omega))) ?_
    refine E_iload rfl rfl ?_
    refine E_if (t := 80) (b := true) rfl rfl (by decide) ?_
    refine E_iload rfl rfl ?_
    refine E_if (t := 92) (b := false) rfl rfl (by decide) ?_
    refine E_aload_n rfl rfl ?_
    refine E_iload rfl rfl ?_
    refine E_callV (v := some (.int (-13))) (As := [.ref 65, .int (-3)]) (r0 := []) (cs2 := ((w0.set 48 (.inl [0, 0, 0, 1, 0, 0, 0, 0])).set 66 (.inl [0, 0, 0, 1, 0, 0, 0, 0]))) rfl rfl rfl (Nat.le_of_ble_eq_true rfl) rfl rfl c258_X6_noTen (by decide) (by simp only [List.length_set]) ?_
    exact E_iret rfl rfl, (by simp only [List.length_set]; rfl), (by simp only [List.length_set]; rfl), ((ab_szs rfl).trans ((ab_szs rfl).trans rfl)), fun _ => rfl⟩
theorem f_costs_35 (a2 a3 : Int32) (ha2h : a2.toInt ≤ 0) (ha3l : (0 : Int) ≤ a3.toInt) (ha3h : a3.toInt ≤ 7) : p1_P 6 100 4 188 [.ref 0, .int 5, .int a2, .int a3, .int 0] [.ref 65, .int 5, .int a2, .int a3, .int 0] :=
  ⟨(-13), (w0.set 48 (.inl [0, 0, 0, 1, 0, 0, 0, 0])), ((w0.set 48 (.inl [0, 0, 0, 1, 0, 0, 0, 0])).set 66 (.inl [0, 0, 0, 1, 0, 0, 0, 0])), by
    refine Ef.in (md := mX5_costs) (L := [some (.ref 0), some (.int 5), some (.int a2), some (.int a3), some (.int 0), none, none, none, none]) rfl (Nat.le_of_ble_eq_true rfl) rfl ?_
    refine E_iload_n rfl rfl ?_
    have e2 : Ev ab_Z0 1 47 [.int a3] w0 (some (.int 1), w0) := by
      refine Ef.in (md := mX4_isWish) (L := [some (.int a3)]) rfl (Nat.le_of_ble_eq_true rfl) rfl ?_
      refine E_iload_n rfl rfl ?_
      refine E_if (t := 14) (b := false) rfl rfl ((cn_lt (rfl : (a3).toInt = (a3).toInt) (by decide : (0 : Int32).toInt = 0)).trans (decide_eq_false (by omega))) ?_
      refine E_iload_n rfl rfl ?_
      refine E_bipush (x := 8) rfl (by decide) ?_
      refine E_ic (t := 14) (b := false) rfl rfl ((cn_ge (rfl : (a3).toInt = (a3).toInt) (by decide : (8 : Int32).toInt = 8)).trans (decide_eq_false (by omega))) ?_
      refine E_iconst (x := 1) rfl (by decide) ?_
      refine E_goto (t := 15) rfl rfl ?_
      exact E_iret rfl rfl
    refine E_callS (v := some (.int 1)) (As := [.int a3]) (r0 := []) (cs2 := w0) rfl rfl rfl (Nat.le_of_ble_eq_true rfl) rfl e2 (by decide) rfl ?_
    refine E_if (t := 31) (b := false) rfl rfl (by decide) ?_
    refine E_aload_n rfl rfl ?_
    refine E_iload_n rfl rfl ?_
    refine E_iload_n rfl rfl ?_
    refine E_bipush (x := 40) rfl (by decide) ?_
    refine E_iload rfl rfl ?_
    refine E_callS (v := some (.int 1)) (As := [.int 0]) (r0 := [.int 40, .int a2, .int 5, .ref 0]) (cs2 := w0) rfl rfl rfl (Nat.le_of_ble_eq_true rfl) rfl c230_X5_isOneOfTwo (by decide) rfl ?_
    refine E_if (t := 24) (b := true) rfl rfl (by decide) ?_
    refine E_iconst (x := 0) rfl (by decide) ?_
    have e22 : Ev ab_Z0 3 120 [.ref 0, .int 5, .int a2, .int 40, .int 0] w0 (some (.int 3), w0) := by
      refine Ef.in (md := mX5_whyNoTwos) (L := [some (.ref 0), some (.int 5), some (.int a2), some (.int 40), some (.int 0), none]) rfl (Nat.le_of_ble_eq_true rfl) rfl ?_
      refine E_aload_n rfl rfl ?_
      refine E_iload_n rfl rfl ?_
      refine E_callV (v := some (.int 3)) (As := [.ref 0, .int 5]) (r0 := []) (cs2 := w0) rfl rfl rfl (Nat.le_of_ble_eq_true rfl) rfl rfl c52_X5_whyNoRow (by decide) rfl ?_
      refine E_istore (L2 := [some (.ref 0), some (.int 5), some (.int a2), some (.int 40), some (.int 0), some (.int 3)]) rfl rfl ?_
      refine E_iload rfl rfl ?_
      refine E_if (t := 15) (b := false) rfl rfl (by decide) ?_
      refine E_iload rfl rfl ?_
      exact E_iret rfl rfl
    refine E_callV (v := some (.int 3)) (As := [.ref 0, .int 5, .int a2, .int 40, .int 0]) (r0 := []) (cs2 := w0) rfl rfl rfl (Nat.le_of_ble_eq_true rfl) rfl rfl e22 (by decide) rfl ?_
    refine E_goto (t := 32) rfl rfl ?_
    refine E_istore (L2 := [some (.ref 0), some (.int 5), some (.int a2), some (.int a3), some (.int 0), some (.int 3), none, none, none]) rfl rfl ?_
    refine E_iload rfl rfl ?_
    refine E_if (t := 56) (b := true) rfl rfl (by decide) ?_
    refine E_iload rfl rfl ?_
    refine E_if (t := 71) (b := false) rfl rfl (by decide) ?_
    refine E_aload_n rfl rfl ?_
    refine E_iload rfl rfl ?_
    refine E_callV (v := some (.int (-3))) (As := [.ref 0, .int 3]) (r0 := []) (cs2 := (w0.set 48 (.inl [0, 0, 0, 1, 0, 0, 0, 0]))) rfl rfl rfl (Nat.le_of_ble_eq_true rfl) rfl rfl c32_X5_refuse (by decide) (by simp only [List.length_set]) ?_
    refine E_bipush (x := 10) rfl (by decide) ?_
    refine E_isub (z := (-13)) rfl (by decide) ?_
    exact E_iret rfl rfl, by
    refine Ef.in (md := mX6_costs) (L := [some (.ref 65), some (.int 5), some (.int a2), some (.int a3), some (.int 0), none, none, none, none, none, none, none]) rfl (Nat.le_of_ble_eq_true rfl) rfl ?_
    refine E_aload_n rfl rfl ?_
    refine E_iload_n rfl rfl ?_
    refine E_iconst (x := 0) rfl (by decide) ?_
    refine E_bipush (x := 7) rfl (by decide) ?_
    have e5 : Ev ab_Z0 1 134 [.ref 65, .int a3, .int 0, .int 7] (w0.set 48 (.inl [0, 0, 0, 1, 0, 0, 0, 0])) (some (.int 1), (w0.set 48 (.inl [0, 0, 0, 1, 0, 0, 0, 0]))) := by
      refine Ef.in (md := mX6_isFrom) (L := [some (.ref 65), some (.int a3), some (.int 0), some (.int 7)]) rfl (Nat.le_of_ble_eq_true rfl) rfl ?_
      refine E_iload_n rfl rfl ?_
      refine E_iload_n rfl rfl ?_
      refine E_ic (t := 14) (b := false) rfl rfl ((cn_lt (rfl : (a3).toInt = (a3).toInt) (by decide : (0 : Int32).toInt = 0)).trans (decide_eq_false (by omega))) ?_
      refine E_iload_n rfl rfl ?_
      refine E_iload_n rfl rfl ?_
      refine E_ic (t := 14) (b := false) rfl rfl ((cn_gt (rfl : (a3).toInt = (a3).toInt) (by decide : (7 : Int32).toInt = 7)).trans (decide_eq_false (by omega))) ?_
      refine E_iconst (x := 1) rfl (by decide) ?_
      refine E_goto (t := 15) rfl rfl ?_
      exact E_iret rfl rfl
    refine E_callV (v := some (.int 1)) (As := [.ref 65, .int a3, .int 0, .int 7]) (r0 := []) (cs2 := (w0.set 48 (.inl [0, 0, 0, 1, 0, 0, 0, 0]))) rfl rfl rfl (Nat.le_of_ble_eq_true rfl) rfl rfl e5 (by decide) rfl ?_
    refine E_if (t := 15) (b := true) rfl rfl (by decide) ?_
    refine E_aload_n rfl rfl ?_
    refine E_iload_n rfl rfl ?_
    refine E_iload_n rfl rfl ?_
    refine E_bipush (x := 40) rfl (by decide) ?_
    refine E_iload rfl rfl ?_
    refine E_if (t := 31) (b := true) rfl rfl (by decide) ?_
    refine E_iconst (x := 1) rfl (by decide) ?_
    refine E_goto (t := 36) rfl rfl ?_
    have e26 : Ev ab_Z0 3 186 [.ref 65, .int 5, .int a2, .int 40, .int 1] (w0.set 48 (.inl [0, 0, 0, 1, 0, 0, 0, 0])) (some (.int (-3)), (w0.set 48 (.inl [0, 0, 0, 1, 0, 0, 0, 0]))) := by
      refine Ef.in (md := mX6_barsOf) (L := [some (.ref 65), some (.int 5), some (.int a2), some (.int 40), some (.int 1), none]) rfl (Nat.le_of_ble_eq_true rfl) rfl ?_
      refine E_aload_n rfl rfl ?_
      refine E_iload_n rfl rfl ?_
      refine E_callV (v := some (.int (-3))) (As := [.ref 65, .int 5]) (r0 := []) (cs2 := (w0.set 48 (.inl [0, 0, 0, 1, 0, 0, 0, 0]))) rfl rfl rfl (Nat.le_of_ble_eq_true rfl) rfl rfl c220_X6_wanted (by decide) rfl ?_
      refine E_istore (L2 := [some (.ref 65), some (.int 5), some (.int a2), some (.int 40), some (.int 1), some (.int (-3))]) rfl rfl ?_
      refine E_iload rfl rfl ?_
      refine E_if (t := 17) (b := false) rfl rfl (by decide) ?_
      refine E_iload rfl rfl ?_
      refine E_goto (t := 59) rfl rfl ?_
      exact E_iret rfl rfl
    refine E_callV (v := some (.int (-3))) (As := [.ref 65, .int 5, .int a2, .int 40, .int 1]) (r0 := []) (cs2 := (w0.set 48 (.inl [0, 0, 0, 1, 0, 0, 0, 0]))) rfl rfl rfl (Nat.le_of_ble_eq_true rfl) rfl rfl e26 (by decide) rfl ?_
    refine E_istore (L2 := [some (.ref 65), some (.int 5), some (.int a2), some (.int a3), some (.int 0), some (.int (-3)), none, none, none, none, none, none]) rfl rfl ?_
    refine E_iconst (x := 0) rfl (by decide) ?_
    refine E_istore (L2 := [some (.ref 65), some (.int 5), some (.int a2), some (.int a3), some (.int 0), some (.int (-3)), some (.int 0), none, none, none, none, none]) rfl rfl ?_
    refine E_iload rfl rfl ?_
    refine E_iload_n rfl rfl ?_
    refine E_ic (t := 80) (b := true) rfl rfl ((cn_ge (by decide : (0 : Int32).toInt = 0) (rfl : (a2).toInt = (a2).toInt)).trans (decide_eq_true (by omega))) ?_
    refine E_iload rfl rfl ?_
    refine E_if (t := 92) (b := false) rfl rfl (by decide) ?_
    refine E_aload_n rfl rfl ?_
    refine E_iload rfl rfl ?_
    refine E_callV (v := some (.int (-13))) (As := [.ref 65, .int (-3)]) (r0 := []) (cs2 := ((w0.set 48 (.inl [0, 0, 0, 1, 0, 0, 0, 0])).set 66 (.inl [0, 0, 0, 1, 0, 0, 0, 0]))) rfl rfl rfl (Nat.le_of_ble_eq_true rfl) rfl rfl c258_X6_noTen (by decide) (by simp only [List.length_set]) ?_
    exact E_iret rfl rfl, (by simp only [List.length_set]; rfl), (by simp only [List.length_set]; rfl), ((ab_szs rfl).trans ((ab_szs rfl).trans rfl)), fun _ => rfl⟩
theorem f_costs_36 (a2 a3 : Int32) (ha2l : (1 : Int) ≤ a2.toInt) (ha3l : (0 : Int) ≤ a3.toInt) (ha3h : a3.toInt ≤ 7) : p1_P 6 100 4 188 [.ref 0, .int 5, .int a2, .int a3, .int 0] [.ref 65, .int 5, .int a2, .int a3, .int 0] :=
  ⟨(-13), (w0.set 48 (.inl [0, 0, 0, 1, 0, 0, 0, 0])), ((w0.set 48 (.inl [0, 0, 0, 1, 0, 0, 0, 0])).set 66 (.inl [0, 0, 0, 1, 0, 0, 0, 0])), by
    refine Ef.in (md := mX5_costs) (L := [some (.ref 0), some (.int 5), some (.int a2), some (.int a3), some (.int 0), none, none, none, none]) rfl (Nat.le_of_ble_eq_true rfl) rfl ?_
    refine E_iload_n rfl rfl ?_
    have e2 : Ev ab_Z0 1 47 [.int a3] w0 (some (.int 1), w0) := by
      refine Ef.in (md := mX4_isWish) (L := [some (.int a3)]) rfl (Nat.le_of_ble_eq_true rfl) rfl ?_
      refine E_iload_n rfl rfl ?_
      refine E_if (t := 14) (b := false) rfl rfl ((cn_lt (rfl : (a3).toInt = (a3).toInt) (by decide : (0 : Int32).toInt = 0)).trans (decide_eq_false (by omega))) ?_
      refine E_iload_n rfl rfl ?_
      refine E_bipush (x := 8) rfl (by decide) ?_
      refine E_ic (t := 14) (b := false) rfl rfl ((cn_ge (rfl : (a3).toInt = (a3).toInt) (by decide : (8 : Int32).toInt = 8)).trans (decide_eq_false (by omega))) ?_
      refine E_iconst (x := 1) rfl (by decide) ?_
      refine E_goto (t := 15) rfl rfl ?_
      exact E_iret rfl rfl
    refine E_callS (v := some (.int 1)) (As := [.int a3]) (r0 := []) (cs2 := w0) rfl rfl rfl (Nat.le_of_ble_eq_true rfl) rfl e2 (by decide) rfl ?_
    refine E_if (t := 31) (b := false) rfl rfl (by decide) ?_
    refine E_aload_n rfl rfl ?_
    refine E_iload_n rfl rfl ?_
    refine E_iload_n rfl rfl ?_
    refine E_bipush (x := 40) rfl (by decide) ?_
    refine E_iload rfl rfl ?_
    refine E_callS (v := some (.int 1)) (As := [.int 0]) (r0 := [.int 40, .int a2, .int 5, .ref 0]) (cs2 := w0) rfl rfl rfl (Nat.le_of_ble_eq_true rfl) rfl c230_X5_isOneOfTwo (by decide) rfl ?_
    refine E_if (t := 24) (b := true) rfl rfl (by decide) ?_
    refine E_iconst (x := 0) rfl (by decide) ?_
    have e22 : Ev ab_Z0 3 120 [.ref 0, .int 5, .int a2, .int 40, .int 0] w0 (some (.int 3), w0) := by
      refine Ef.in (md := mX5_whyNoTwos) (L := [some (.ref 0), some (.int 5), some (.int a2), some (.int 40), some (.int 0), none]) rfl (Nat.le_of_ble_eq_true rfl) rfl ?_
      refine E_aload_n rfl rfl ?_
      refine E_iload_n rfl rfl ?_
      refine E_callV (v := some (.int 3)) (As := [.ref 0, .int 5]) (r0 := []) (cs2 := w0) rfl rfl rfl (Nat.le_of_ble_eq_true rfl) rfl rfl c52_X5_whyNoRow (by decide) rfl ?_
      refine E_istore (L2 := [some (.ref 0), some (.int 5), some (.int a2), some (.int 40), some (.int 0), some (.int 3)]) rfl rfl ?_
      refine E_iload rfl rfl ?_
      refine E_if (t := 15) (b := false) rfl rfl (by decide) ?_
      refine E_iload rfl rfl ?_
      exact E_iret rfl rfl
    refine E_callV (v := some (.int 3)) (As := [.ref 0, .int 5, .int a2, .int 40, .int 0]) (r0 := []) (cs2 := w0) rfl rfl rfl (Nat.le_of_ble_eq_true rfl) rfl rfl e22 (by decide) rfl ?_
    refine E_goto (t := 32) rfl rfl ?_
    refine E_istore (L2 := [some (.ref 0), some (.int 5), some (.int a2), some (.int a3), some (.int 0), some (.int 3), none, none, none]) rfl rfl ?_
    refine E_iload rfl rfl ?_
    refine E_if (t := 56) (b := true) rfl rfl (by decide) ?_
    refine E_iload rfl rfl ?_
    refine E_if (t := 71) (b := false) rfl rfl (by decide) ?_
    refine E_aload_n rfl rfl ?_
    refine E_iload rfl rfl ?_
    refine E_callV (v := some (.int (-3))) (As := [.ref 0, .int 3]) (r0 := []) (cs2 := (w0.set 48 (.inl [0, 0, 0, 1, 0, 0, 0, 0]))) rfl rfl rfl (Nat.le_of_ble_eq_true rfl) rfl rfl c32_X5_refuse (by decide) (by simp only [List.length_set]) ?_
    refine E_bipush (x := 10) rfl (by decide) ?_
    refine E_isub (z := (-13)) rfl (by decide) ?_
    exact E_iret rfl rfl, by
    refine Ef.in (md := mX6_costs) (L := [some (.ref 65), some (.int 5), some (.int a2), some (.int a3), some (.int 0), none, none, none, none, none, none, none]) rfl (Nat.le_of_ble_eq_true rfl) rfl ?_
    refine E_aload_n rfl rfl ?_
    refine E_iload_n rfl rfl ?_
    refine E_iconst (x := 0) rfl (by decide) ?_
    refine E_bipush (x := 7) rfl (by decide) ?_
    have e5 : Ev ab_Z0 1 134 [.ref 65, .int a3, .int 0, .int 7] (w0.set 48 (.inl [0, 0, 0, 1, 0, 0, 0, 0])) (some (.int 1), (w0.set 48 (.inl [0, 0, 0, 1, 0, 0, 0, 0]))) := by
      refine Ef.in (md := mX6_isFrom) (L := [some (.ref 65), some (.int a3), some (.int 0), some (.int 7)]) rfl (Nat.le_of_ble_eq_true rfl) rfl ?_
      refine E_iload_n rfl rfl ?_
      refine E_iload_n rfl rfl ?_
      refine E_ic (t := 14) (b := false) rfl rfl ((cn_lt (rfl : (a3).toInt = (a3).toInt) (by decide : (0 : Int32).toInt = 0)).trans (decide_eq_false (by omega))) ?_
      refine E_iload_n rfl rfl ?_
      refine E_iload_n rfl rfl ?_
      refine E_ic (t := 14) (b := false) rfl rfl ((cn_gt (rfl : (a3).toInt = (a3).toInt) (by decide : (7 : Int32).toInt = 7)).trans (decide_eq_false (by omega))) ?_
      refine E_iconst (x := 1) rfl (by decide) ?_
      refine E_goto (t := 15) rfl rfl ?_
      exact E_iret rfl rfl
    refine E_callV (v := some (.int 1)) (As := [.ref 65, .int a3, .int 0, .int 7]) (r0 := []) (cs2 := (w0.set 48 (.inl [0, 0, 0, 1, 0, 0, 0, 0]))) rfl rfl rfl (Nat.le_of_ble_eq_true rfl) rfl rfl e5 (by decide) rfl ?_
    refine E_if (t := 15) (b := true) rfl rfl (by decide) ?_
    refine E_aload_n rfl rfl ?_
    refine E_iload_n rfl rfl ?_
    refine E_iload_n rfl rfl ?_
    refine E_bipush (x := 40) rfl (by decide) ?_
    refine E_iload rfl rfl ?_
    refine E_if (t := 31) (b := true) rfl rfl (by decide) ?_
    refine E_iconst (x := 1) rfl (by decide) ?_
    refine E_goto (t := 36) rfl rfl ?_
    have e26 : Ev ab_Z0 3 186 [.ref 65, .int 5, .int a2, .int 40, .int 1] (w0.set 48 (.inl [0, 0, 0, 1, 0, 0, 0, 0])) (some (.int (-3)), (w0.set 48 (.inl [0, 0, 0, 1, 0, 0, 0, 0]))) := by
      refine Ef.in (md := mX6_barsOf) (L := [some (.ref 65), some (.int 5), some (.int a2), some (.int 40), some (.int 1), none]) rfl (Nat.le_of_ble_eq_true rfl) rfl ?_
      refine E_aload_n rfl rfl ?_
      refine E_iload_n rfl rfl ?_
      refine E_callV (v := some (.int (-3))) (As := [.ref 65, .int 5]) (r0 := []) (cs2 := (w0.set 48 (.inl [0, 0, 0, 1, 0, 0, 0, 0]))) rfl rfl rfl (Nat.le_of_ble_eq_true rfl) rfl rfl c220_X6_wanted (by decide) rfl ?_
      refine E_istore (L2 := [some (.ref 65), some (.int 5), some (.int a2), some (.int 40), some (.int 1), some (.int (-3))]) rfl rfl ?_
      refine E_iload rfl rfl ?_
      refine E_if (t := 17) (b := false) rfl rfl (by decide) ?_
      refine E_iload rfl rfl ?_
      refine E_goto (t := 59) rfl rfl ?_
      exact E_iret rfl rfl
    refine E_callV (v := some (.int (-3))) (As := [.ref 65, .int 5, .int a2, .int 40, .int 1]) (r0 := []) (cs2 := (w0.set 48 (.inl [0, 0, 0, 1, 0, 0, 0, 0]))) rfl rfl rfl (Nat.le_of_ble_eq_true rfl) rfl rfl e26 (by decide) rfl ?_
    refine E_istore (L2 := [some (.ref 65), some (.int 5), some (.int a2), some (.int a3), some (.int 0), some (.int (-3)), none, none, none, none, none, none]) rfl rfl ?_
    refine E_iconst (x := 0) rfl (by decide) ?_
    refine E_istore (L2 := [some (.ref 65), some (.int 5), some (.int a2), some (.int a3), some (.int 0), some (.int (-3)), some (.int 0), none, none, none, none, none]) rfl rfl ?_
    refine E_iload rfl rfl ?_
    refine E_iload_n rfl rfl ?_
    refine E_ic (t := 80) (b := false) rfl rfl ((cn_ge (by decide : (0 : Int32).toInt = 0) (rfl : (a2).toInt = (a2).toInt)).trans (decide_eq_false (by omega))) ?_
    refine E_iload rfl rfl ?_
    refine E_if (t := 80) (b := true) rfl rfl (by decide) ?_
    refine E_iload rfl rfl ?_
    refine E_if (t := 92) (b := false) rfl rfl (by decide) ?_
    refine E_aload_n rfl rfl ?_
    refine E_iload rfl rfl ?_
    refine E_callV (v := some (.int (-13))) (As := [.ref 65, .int (-3)]) (r0 := []) (cs2 := ((w0.set 48 (.inl [0, 0, 0, 1, 0, 0, 0, 0])).set 66 (.inl [0, 0, 0, 1, 0, 0, 0, 0]))) rfl rfl rfl (Nat.le_of_ble_eq_true rfl) rfl rfl c258_X6_noTen (by decide) (by simp only [List.length_set]) ?_
    exact E_iret rfl rfl, (by simp only [List.length_set]; rfl), (by simp only [List.length_set]; rfl), ((ab_szs rfl).trans ((ab_szs rfl).trans rfl)), fun _ => rfl⟩
theorem f_costs_37 (a2 a3 : Int32) (ha2h : a2.toInt ≤ 0) (ha3l : (0 : Int) ≤ a3.toInt) (ha3h : a3.toInt ≤ 7) : p1_P 6 100 4 188 [.ref 0, .int 6, .int a2, .int a3, .int 0] [.ref 65, .int 6, .int a2, .int a3, .int 0] :=
  ⟨(-13), (w0.set 48 (.inl [0, 0, 0, 1, 0, 0, 0, 0])), ((w0.set 48 (.inl [0, 0, 0, 1, 0, 0, 0, 0])).set 66 (.inl [0, 0, 0, 1, 0, 0, 0, 0])), by
    refine Ef.in (md := mX5_costs) (L := [some (.ref 0), some (.int 6), some (.int a2), some (.int a3), some (.int 0), none, none, none, none]) rfl (Nat.le_of_ble_eq_true rfl) rfl ?_
    refine E_iload_n rfl rfl ?_
    have e2 : Ev ab_Z0 1 47 [.int a3] w0 (some (.int 1), w0) := by
      refine Ef.in (md := mX4_isWish) (L := [some (.int a3)]) rfl (Nat.le_of_ble_eq_true rfl) rfl ?_
      refine E_iload_n rfl rfl ?_
      refine E_if (t := 14) (b := false) rfl rfl ((cn_lt (rfl : (a3).toInt = (a3).toInt) (by decide : (0 : Int32).toInt = 0)).trans (decide_eq_false (by omega))) ?_
      refine E_iload_n rfl rfl ?_
      refine E_bipush (x := 8) rfl (by decide) ?_
      refine E_ic (t := 14) (b := false) rfl rfl ((cn_ge (rfl : (a3).toInt = (a3).toInt) (by decide : (8 : Int32).toInt = 8)).trans (decide_eq_false (by omega))) ?_
      refine E_iconst (x := 1) rfl (by decide) ?_
      refine E_goto (t := 15) rfl rfl ?_
      exact E_iret rfl rfl
    refine E_callS (v := some (.int 1)) (As := [.int a3]) (r0 := []) (cs2 := w0) rfl rfl rfl (Nat.le_of_ble_eq_true rfl) rfl e2 (by decide) rfl ?_
    refine E_if (t := 31) (b := false) rfl rfl (by decide) ?_
    refine E_aload_n rfl rfl ?_
    refine E_iload_n rfl rfl ?_
    refine E_iload_n rfl rfl ?_
    refine E_bipush (x := 40) rfl (by decide) ?_
    refine E_iload rfl rfl ?_
    refine E_callS (v := some (.int 1)) (As := [.int 0]) (r0 := [.int 40, .int a2, .int 6, .ref 0]) (cs2 := w0) rfl rfl rfl (Nat.le_of_ble_eq_true rfl) rfl c230_X5_isOneOfTwo (by decide) rfl ?_
    refine E_if (t := 24) (b := true) rfl rfl (by decide) ?_
    refine E_iconst (x := 0) rfl (by decide) ?_
    have e22 : Ev ab_Z0 3 120 [.ref 0, .int 6, .int a2, .int 40, .int 0] w0 (some (.int 3), w0) := by
      refine Ef.in (md := mX5_whyNoTwos) (L := [some (.ref 0), some (.int 6), some (.int a2), some (.int 40), some (.int 0), none]) rfl (Nat.le_of_ble_eq_true rfl) rfl ?_
      refine E_aload_n rfl rfl ?_
      refine E_iload_n rfl rfl ?_
      refine E_callV (v := some (.int 3)) (As := [.ref 0, .int 6]) (r0 := []) (cs2 := w0) rfl rfl rfl (Nat.le_of_ble_eq_true rfl) rfl rfl c56_X5_whyNoRow (by decide) rfl ?_
      refine E_istore (L2 := [some (.ref 0), some (.int 6), some (.int a2), some (.int 40), some (.int 0), some (.int 3)]) rfl rfl ?_
      refine E_iload rfl rfl ?_
      refine E_if (t := 15) (b := false) rfl rfl (by decide) ?_
      refine E_iload rfl rfl ?_
      exact E_iret rfl rfl
    refine E_callV (v := some (.int 3)) (As := [.ref 0, .int 6, .int a2, .int 40, .int 0]) (r0 := []) (cs2 := w0) rfl rfl rfl (Nat.le_of_ble_eq_true rfl) rfl rfl e22 (by decide) rfl ?_
    refine E_goto (t := 32) rfl rfl ?_
    refine E_istore (L2 := [some (.ref 0), some (.int 6), some (.int a2), some (.int a3), some (.int 0), some (.int 3), none, none, none]) rfl rfl ?_
    refine E_iload rfl rfl ?_
    refine E_if (t := 56) (b := true) rfl rfl (by decide) ?_
    refine E_iload rfl rfl ?_
    refine E_if (t := 71) (b := false) rfl rfl (by decide) ?_
    refine E_aload_n rfl rfl ?_
    refine E_iload rfl rfl ?_
    refine E_callV (v := some (.int (-3))) (As := [.ref 0, .int 3]) (r0 := []) (cs2 := (w0.set 48 (.inl [0, 0, 0, 1, 0, 0, 0, 0]))) rfl rfl rfl (Nat.le_of_ble_eq_true rfl) rfl rfl c32_X5_refuse (by decide) (by simp only [List.length_set]) ?_
    refine E_bipush (x := 10) rfl (by decide) ?_
    refine E_isub (z := (-13)) rfl (by decide) ?_
    exact E_iret rfl rfl, by
    refine Ef.in (md := mX6_costs) (L := [some (.ref 65), some (.int 6), some (.int a2), some (.int a3), some (.int 0), none, none, none, none, none, none, none]) rfl (Nat.le_of_ble_eq_true rfl) rfl ?_
    refine E_aload_n rfl rfl ?_
    refine E_iload_n rfl rfl ?_
    refine E_iconst (x := 0) rfl (by decide) ?_
    refine E_bipush (x := 7) rfl (by decide) ?_
    have e5 : Ev ab_Z0 1 134 [.ref 65, .int a3, .int 0, .int 7] (w0.set 48 (.inl [0, 0, 0, 1, 0, 0, 0, 0])) (some (.int 1), (w0.set 48 (.inl [0, 0, 0, 1, 0, 0, 0, 0]))) := by
      refine Ef.in (md := mX6_isFrom) (L := [some (.ref 65), some (.int a3), some (.int 0), some (.int 7)]) rfl (Nat.le_of_ble_eq_true rfl) rfl ?_
      refine E_iload_n rfl rfl ?_
      refine E_iload_n rfl rfl ?_
      refine E_ic (t := 14) (b := false) rfl rfl ((cn_lt (rfl : (a3).toInt = (a3).toInt) (by decide : (0 : Int32).toInt = 0)).trans (decide_eq_false (by omega))) ?_
      refine E_iload_n rfl rfl ?_
      refine E_iload_n rfl rfl ?_
      refine E_ic (t := 14) (b := false) rfl rfl ((cn_gt (rfl : (a3).toInt = (a3).toInt) (by decide : (7 : Int32).toInt = 7)).trans (decide_eq_false (by omega))) ?_
      refine E_iconst (x := 1) rfl (by decide) ?_
      refine E_goto (t := 15) rfl rfl ?_
      exact E_iret rfl rfl
    refine E_callV (v := some (.int 1)) (As := [.ref 65, .int a3, .int 0, .int 7]) (r0 := []) (cs2 := (w0.set 48 (.inl [0, 0, 0, 1, 0, 0, 0, 0]))) rfl rfl rfl (Nat.le_of_ble_eq_true rfl) rfl rfl e5 (by decide) rfl ?_
    refine E_if (t := 15) (b := true) rfl rfl (by decide) ?_
    refine E_aload_n rfl rfl ?_
    refine E_iload_n rfl rfl ?_
    refine E_iload_n rfl rfl ?_
    refine E_bipush (x := 40) rfl (by decide) ?_
    refine E_iload rfl rfl ?_
    refine E_if (t := 31) (b := true) rfl rfl (by decide) ?_
    refine E_iconst (x := 1) rfl (by decide) ?_
    refine E_goto (t := 36) rfl rfl ?_
    have e26 : Ev ab_Z0 3 186 [.ref 65, .int 6, .int a2, .int 40, .int 1] (w0.set 48 (.inl [0, 0, 0, 1, 0, 0, 0, 0])) (some (.int (-3)), (w0.set 48 (.inl [0, 0, 0, 1, 0, 0, 0, 0]))) := by
      refine Ef.in (md := mX6_barsOf) (L := [some (.ref 65), some (.int 6), some (.int a2), some (.int 40), some (.int 1), none]) rfl (Nat.le_of_ble_eq_true rfl) rfl ?_
      refine E_aload_n rfl rfl ?_
      refine E_iload_n rfl rfl ?_
      refine E_callV (v := some (.int (-3))) (As := [.ref 65, .int 6]) (r0 := []) (cs2 := (w0.set 48 (.inl [0, 0, 0, 1, 0, 0, 0, 0]))) rfl rfl rfl (Nat.le_of_ble_eq_true rfl) rfl rfl c223_X6_wanted (by decide) rfl ?_
      refine E_istore (L2 := [some (.ref 65), some (.int 6), some (.int a2), some (.int 40), some (.int 1), some (.int (-3))]) rfl rfl ?_
      refine E_iload rfl rfl ?_
      refine E_if (t := 17) (b := false) rfl rfl (by decide) ?_
      refine E_iload rfl rfl ?_
      refine E_goto (t := 59) rfl rfl ?_
      exact E_iret rfl rfl
    refine E_callV (v := some (.int (-3))) (As := [.ref 65, .int 6, .int a2, .int 40, .int 1]) (r0 := []) (cs2 := (w0.set 48 (.inl [0, 0, 0, 1, 0, 0, 0, 0]))) rfl rfl rfl (Nat.le_of_ble_eq_true rfl) rfl rfl e26 (by decide) rfl ?_
    refine E_istore (L2 := [some (.ref 65), some (.int 6), some (.int a2), some (.int a3), some (.int 0), some (.int (-3)), none, none, none, none, none, none]) rfl rfl ?_
    refine E_iconst (x := 0) rfl (by decide) ?_
    refine E_istore (L2 := [some (.ref 65), some (.int 6), some (.int a2), some (.int a3), some (.int 0), some (.int (-3)), some (.int 0), none, none, none, none, none]) rfl rfl ?_
    refine E_iload rfl rfl ?_
    refine E_iload_n rfl rfl ?_
    refine E_ic (t := 80) (b := true) rfl rfl ((cn_ge (by decide : (0 : Int32).toInt = 0) (rfl : (a2).toInt = (a2).toInt)).trans (decide_eq_true (by omega))) ?_
    refine E_iload rfl rfl ?_
    refine E_if (t := 92) (b := false) rfl rfl (by decide) ?_
    refine E_aload_n rfl rfl ?_
    refine E_iload rfl rfl ?_
    refine E_callV (v := some (.int (-13))) (As := [.ref 65, .int (-3)]) (r0 := []) (cs2 := ((w0.set 48 (.inl [0, 0, 0, 1, 0, 0, 0, 0])).set 66 (.inl [0, 0, 0, 1, 0, 0, 0, 0]))) rfl rfl rfl (Nat.le_of_ble_eq_true rfl) rfl rfl c258_X6_noTen (by decide) (by simp only [List.length_set]) ?_
    exact E_iret rfl rfl, (by simp only [List.length_set]; rfl), (by simp only [List.length_set]; rfl), ((ab_szs rfl).trans ((ab_szs rfl).trans rfl)), fun _ => rfl⟩
theorem f_costs_38 (a2 a3 : Int32) (ha2l : (1 : Int) ≤ a2.toInt) (ha3l : (0 : Int) ≤ a3.toInt) (ha3h : a3.toInt ≤ 7) : p1_P 6 100 4 188 [.ref 0, .int 6, .int a2, .int a3, .int 0] [.ref 65, .int 6, .int a2, .int a3, .int 0] :=
  ⟨(-13), (w0.set 48 (.inl [0, 0, 0, 1, 0, 0, 0, 0])), ((w0.set 48 (.inl [0, 0, 0, 1, 0, 0, 0, 0])).set 66 (.inl [0, 0, 0, 1, 0, 0, 0, 0])), by
    refine Ef.in (md := mX5_costs) (L := [some (.ref 0), some (.int 6), some (.int a2), some (.int a3), some (.int 0), none, none, none, none]) rfl (Nat.le_of_ble_eq_true rfl) rfl ?_
    refine E_iload_n rfl rfl ?_
    have e2 : Ev ab_Z0 1 47 [.int a3] w0 (some (.int 1), w0) := by
      refine Ef.in (md := mX4_isWish) (L := [some (.int a3)]) rfl (Nat.le_of_ble_eq_true rfl) rfl ?_
      refine E_iload_n rfl rfl ?_
      refine E_if (t := 14) (b := false) rfl rfl ((cn_lt (rfl : (a3).toInt = (a3).toInt) (by decide : (0 : Int32).toInt = 0)).trans (decide_eq_false (by omega))) ?_
      refine E_iload_n rfl rfl ?_
      refine E_bipush (x := 8) rfl (by decide) ?_
      refine E_ic (t := 14) (b := false) rfl rfl ((cn_ge (rfl : (a3).toInt = (a3).toInt) (by decide : (8 : Int32).toInt = 8)).trans (decide_eq_false (by omega))) ?_
      refine E_iconst (x := 1) rfl (by decide) ?_
      refine E_goto (t := 15) rfl rfl ?_
      exact E_iret rfl rfl
    refine E_callS (v := some (.int 1)) (As := [.int a3]) (r0 := []) (cs2 := w0) rfl rfl rfl (Nat.le_of_ble_eq_true rfl) rfl e2 (by decide) rfl ?_
    refine E_if (t := 31) (b := false) rfl rfl (by decide) ?_
    refine E_aload_n rfl rfl ?_
    refine E_iload_n rfl rfl ?_
    refine E_iload_n rfl rfl ?_
    refine E_bipush (x := 40) rfl (by decide) ?_
    refine E_iload rfl rfl ?_
    refine E_callS (v := some (.int 1)) (As := [.int 0]) (r0 := [.int 40, .int a2, .int 6, .ref 0]) (cs2 := w0) rfl rfl rfl (Nat.le_of_ble_eq_true rfl) rfl c230_X5_isOneOfTwo (by decide) rfl ?_
    refine E_if (t := 24) (b := true) rfl rfl (by decide) ?_
    refine E_iconst (x := 0) rfl (by decide) ?_
    have e22 : Ev ab_Z0 3 120 [.ref 0, .int 6, .int a2, .int 40, .int 0] w0 (some (.int 3), w0) := by
      refine Ef.in (md := mX5_whyNoTwos) (L := [some (.ref 0), some (.int 6), some (.int a2), some (.int 40), some (.int 0), none]) rfl (Nat.le_of_ble_eq_true rfl) rfl ?_
      refine E_aload_n rfl rfl ?_
      refine E_iload_n rfl rfl ?_
      refine E_callV (v := some (.int 3)) (As := [.ref 0, .int 6]) (r0 := []) (cs2 := w0) rfl rfl rfl (Nat.le_of_ble_eq_true rfl) rfl rfl c56_X5_whyNoRow (by decide) rfl ?_
      refine E_istore (L2 := [some (.ref 0), some (.int 6), some (.int a2), some (.int 40), some (.int 0), some (.int 3)]) rfl rfl ?_
      refine E_iload rfl rfl ?_
      refine E_if (t := 15) (b := false) rfl rfl (by decide) ?_
      refine E_iload rfl rfl ?_
      exact E_iret rfl rfl
    refine E_callV (v := some (.int 3)) (As := [.ref 0, .int 6, .int a2, .int 40, .int 0]) (r0 := []) (cs2 := w0) rfl rfl rfl (Nat.le_of_ble_eq_true rfl) rfl rfl e22 (by decide) rfl ?_
    refine E_goto (t := 32) rfl rfl ?_
    refine E_istore (L2 := [some (.ref 0), some (.int 6), some (.int a2), some (.int a3), some (.int 0), some (.int 3), none, none, none]) rfl rfl ?_
    refine E_iload rfl rfl ?_
    refine E_if (t := 56) (b := true) rfl rfl (by decide) ?_
    refine E_iload rfl rfl ?_
    refine E_if (t := 71) (b := false) rfl rfl (by decide) ?_
    refine E_aload_n rfl rfl ?_
    refine E_iload rfl rfl ?_
    refine E_callV (v := some (.int (-3))) (As := [.ref 0, .int 3]) (r0 := []) (cs2 := (w0.set 48 (.inl [0, 0, 0, 1, 0, 0, 0, 0]))) rfl rfl rfl (Nat.le_of_ble_eq_true rfl) rfl rfl c32_X5_refuse (by decide) (by simp only [List.length_set]) ?_
    refine E_bipush (x := 10) rfl (by decide) ?_
    refine E_isub (z := (-13)) rfl (by decide) ?_
    exact E_iret rfl rfl, by
    refine Ef.in (md := mX6_costs) (L := [some (.ref 65), some (.int 6), some (.int a2), some (.int a3), some (.int 0), none, none, none, none, none, none, none]) rfl (Nat.le_of_ble_eq_true rfl) rfl ?_
    refine E_aload_n rfl rfl ?_
    refine E_iload_n rfl rfl ?_
    refine E_iconst (x := 0) rfl (by decide) ?_
    refine E_bipush (x := 7) rfl (by decide) ?_
    have e5 : Ev ab_Z0 1 134 [.ref 65, .int a3, .int 0, .int 7] (w0.set 48 (.inl [0, 0, 0, 1, 0, 0, 0, 0])) (some (.int 1), (w0.set 48 (.inl [0, 0, 0, 1, 0, 0, 0, 0]))) := by
      refine Ef.in (md := mX6_isFrom) (L := [some (.ref 65), some (.int a3), some (.int 0), some (.int 7)]) rfl (Nat.le_of_ble_eq_true rfl) rfl ?_
      refine E_iload_n rfl rfl ?_
      refine E_iload_n rfl rfl ?_
      refine E_ic (t := 14) (b := false) rfl rfl ((cn_lt (rfl : (a3).toInt = (a3).toInt) (by decide : (0 : Int32).toInt = 0)).trans (decide_eq_false (by omega))) ?_
      refine E_iload_n rfl rfl ?_
      refine E_iload_n rfl rfl ?_
      refine E_ic (t := 14) (b := false) rfl rfl ((cn_gt (rfl : (a3).toInt = (a3).toInt) (by decide : (7 : Int32).toInt = 7)).trans (decide_eq_false (by omega))) ?_
      refine E_iconst (x := 1) rfl (by decide) ?_
      refine E_goto (t := 15) rfl rfl ?_
      exact E_iret rfl rfl
    refine E_callV (v := some (.int 1)) (As := [.ref 65, .int a3, .int 0, .int 7]) (r0 := []) (cs2 := (w0.set 48 (.inl [0, 0, 0, 1, 0, 0, 0, 0]))) rfl rfl rfl (Nat.le_of_ble_eq_true rfl) rfl rfl e5 (by decide) rfl ?_
    refine E_if (t := 15) (b := true) rfl rfl (by decide) ?_
    refine E_aload_n rfl rfl ?_
    refine E_iload_n rfl rfl ?_
    refine E_iload_n rfl rfl ?_
    refine E_bipush (x := 40) rfl (by decide) ?_
    refine E_iload rfl rfl ?_
    refine E_if (t := 31) (b := true) rfl rfl (by decide) ?_
    refine E_iconst (x := 1) rfl (by decide) ?_
    refine E_goto (t := 36) rfl rfl ?_
    have e26 : Ev ab_Z0 3 186 [.ref 65, .int 6, .int a2, .int 40, .int 1] (w0.set 48 (.inl [0, 0, 0, 1, 0, 0, 0, 0])) (some (.int (-3)), (w0.set 48 (.inl [0, 0, 0, 1, 0, 0, 0, 0]))) := by
      refine Ef.in (md := mX6_barsOf) (L := [some (.ref 65), some (.int 6), some (.int a2), some (.int 40), some (.int 1), none]) rfl (Nat.le_of_ble_eq_true rfl) rfl ?_
      refine E_aload_n rfl rfl ?_
      refine E_iload_n rfl rfl ?_
      refine E_callV (v := some (.int (-3))) (As := [.ref 65, .int 6]) (r0 := []) (cs2 := (w0.set 48 (.inl [0, 0, 0, 1, 0, 0, 0, 0]))) rfl rfl rfl (Nat.le_of_ble_eq_true rfl) rfl rfl c223_X6_wanted (by decide) rfl ?_
      refine E_istore (L2 := [some (.ref 65), some (.int 6), some (.int a2), some (.int 40), some (.int 1), some (.int (-3))]) rfl rfl ?_
      refine E_iload rfl rfl ?_
      refine E_if (t := 17) (b := false) rfl rfl (by decide) ?_
      refine E_iload rfl rfl ?_
      refine E_goto (t := 59) rfl rfl ?_
      exact E_iret rfl rfl
    refine E_callV (v := some (.int (-3))) (As := [.ref 65, .int 6, .int a2, .int 40, .int 1]) (r0 := []) (cs2 := (w0.set 48 (.inl [0, 0, 0, 1, 0, 0, 0, 0]))) rfl rfl rfl (Nat.le_of_ble_eq_true rfl) rfl rfl e26 (by decide) rfl ?_
    refine E_istore (L2 := [some (.ref 65), some (.int 6), some (.int a2), some (.int a3), some (.int 0), some (.int (-3)), none, none, none, none, none, none]) rfl rfl ?_
    refine E_iconst (x := 0) rfl (by decide) ?_
    refine E_istore (L2 := [some (.ref 65), some (.int 6), some (.int a2), some (.int a3), some (.int 0), some (.int (-3)), some (.int 0), none, none, none, none, none]) rfl rfl ?_
    refine E_iload rfl rfl ?_
    refine E_iload_n rfl rfl ?_
    refine E_ic (t := 80) (b := false) rfl rfl ((cn_ge (by decide : (0 : Int32).toInt = 0) (rfl : (a2).toInt = (a2).toInt)).trans (decide_eq_false (by omega))) ?_
    refine E_iload rfl rfl ?_
    refine E_if (t := 80) (b := true) rfl rfl (by decide) ?_
    refine E_iload rfl rfl ?_
    refine E_if (t := 92) (b := false) rfl rfl (by decide) ?_
    refine E_aload_n rfl rfl ?_
    refine E_iload rfl rfl ?_
    refine E_callV (v := some (.int (-13))) (As := [.ref 65, .int (-3)]) (r0 := []) (cs2 := ((w0.set 48 (.inl [0, 0, 0, 1, 0, 0, 0, 0])).set 66 (.inl [0, 0, 0, 1, 0, 0, 0, 0]))) rfl rfl rfl (Nat.le_of_ble_eq_true rfl) rfl rfl c258_X6_noTen (by decide) (by simp only [List.length_set]) ?_
    exact E_iret rfl rfl, (by simp only [List.length_set]; rfl), (by simp only [List.length_set]; rfl), ((ab_szs rfl).trans ((ab_szs rfl).trans rfl)), fun _ => rfl⟩
theorem f_costs_39 (a2 a3 : Int32) (ha2h : a2.toInt ≤ 0) (ha3l : (0 : Int) ≤ a3.toInt) (ha3h : a3.toInt ≤ 7) : p1_P 6 100 4 188 [.ref 0, .int 7, .int a2, .int a3, .int 0] [.ref 65, .int 7, .int a2, .int a3, .int 0] :=
  ⟨(-13), (w0.set 48 (.inl [0, 0, 0, 1, 0, 0, 0, 0])), ((w0.set 48 (.inl [0, 0, 0, 1, 0, 0, 0, 0])).set 66 (.inl [0, 0, 0, 1, 0, 0, 0, 0])), by
    refine Ef.in (md := mX5_costs) (L := [some (.ref 0), some (.int 7), some (.int a2), some (.int a3), some (.int 0), none, none, none, none]) rfl (Nat.le_of_ble_eq_true rfl) rfl ?_
    refine E_iload_n rfl rfl ?_
    have e2 : Ev ab_Z0 1 47 [.int a3] w0 (some (.int 1), w0) := by
      refine Ef.in (md := mX4_isWish) (L := [some (.int a3)]) rfl (Nat.le_of_ble_eq_true rfl) rfl ?_
      refine E_iload_n rfl rfl ?_
      refine E_if (t := 14) (b := false) rfl rfl ((cn_lt (rfl : (a3).toInt = (a3).toInt) (by decide : (0 : Int32).toInt = 0)).trans (decide_eq_false (by omega))) ?_
      refine E_iload_n rfl rfl ?_
      refine E_bipush (x := 8) rfl (by decide) ?_
      refine E_ic (t := 14) (b := false) rfl rfl ((cn_ge (rfl : (a3).toInt = (a3).toInt) (by decide : (8 : Int32).toInt = 8)).trans (decide_eq_false (by omega))) ?_
      refine E_iconst (x := 1) rfl (by decide) ?_
      refine E_goto (t := 15) rfl rfl ?_
      exact E_iret rfl rfl
    refine E_callS (v := some (.int 1)) (As := [.int a3]) (r0 := []) (cs2 := w0) rfl rfl rfl (Nat.le_of_ble_eq_true rfl) rfl e2 (by decide) rfl ?_
    refine E_if (t := 31) (b := false) rfl rfl (by decide) ?_
    refine E_aload_n rfl rfl ?_
    refine E_iload_n rfl rfl ?_
    refine E_iload_n rfl rfl ?_
    refine E_bipush (x := 40) rfl (by decide) ?_
    refine E_iload rfl rfl ?_
    refine E_callS (v := some (.int 1)) (As := [.int 0]) (r0 := [.int 40, .int a2, .int 7, .ref 0]) (cs2 := w0) rfl rfl rfl (Nat.le_of_ble_eq_true rfl) rfl c230_X5_isOneOfTwo (by decide) rfl ?_
    refine E_if (t := 24) (b := true) rfl rfl (by decide) ?_
    refine E_iconst (x := 0) rfl (by decide) ?_
    have e22 : Ev ab_Z0 3 120 [.ref 0, .int 7, .int a2, .int 40, .int 0] w0 (some (.int 3), w0) := by
      refine Ef.in (md := mX5_whyNoTwos) (L := [some (.ref 0), some (.int 7), some (.int a2), some (.int 40), some (.int 0), none]) rfl (Nat.le_of_ble_eq_true rfl) rfl ?_
      refine E_aload_n rfl rfl ?_
      refine E_iload_n rfl rfl ?_
      refine E_callV (v := some (.int 3)) (As := [.ref 0, .int 7]) (r0 := []) (cs2 := w0) rfl rfl rfl (Nat.le_of_ble_eq_true rfl) rfl rfl c60_X5_whyNoRow (by decide) rfl ?_
      refine E_istore (L2 := [some (.ref 0), some (.int 7), some (.int a2), some (.int 40), some (.int 0), some (.int 3)]) rfl rfl ?_
      refine E_iload rfl rfl ?_
      refine E_if (t := 15) (b := false) rfl rfl (by decide) ?_
      refine E_iload rfl rfl ?_
      exact E_iret rfl rfl
    refine E_callV (v := some (.int 3)) (As := [.ref 0, .int 7, .int a2, .int 40, .int 0]) (r0 := []) (cs2 := w0) rfl rfl rfl (Nat.le_of_ble_eq_true rfl) rfl rfl e22 (by decide) rfl ?_
    refine E_goto (t := 32) rfl rfl ?_
    refine E_istore (L2 := [some (.ref 0), some (.int 7), some (.int a2), some (.int a3), some (.int 0), some (.int 3), none, none, none]) rfl rfl ?_
    refine E_iload rfl rfl ?_
    refine E_if (t := 56) (b := true) rfl rfl (by decide) ?_
    refine E_iload rfl rfl ?_
    refine E_if (t := 71) (b := false) rfl rfl (by decide) ?_
    refine E_aload_n rfl rfl ?_
    refine E_iload rfl rfl ?_
    refine E_callV (v := some (.int (-3))) (As := [.ref 0, .int 3]) (r0 := []) (cs2 := (w0.set 48 (.inl [0, 0, 0, 1, 0, 0, 0, 0]))) rfl rfl rfl (Nat.le_of_ble_eq_true rfl) rfl rfl c32_X5_refuse (by decide) (by simp only [List.length_set]) ?_
    refine E_bipush (x := 10) rfl (by decide) ?_
    refine E_isub (z := (-13)) rfl (by decide) ?_
    exact E_iret rfl rfl, by
    refine Ef.in (md := mX6_costs) (L := [some (.ref 65), some (.int 7), some (.int a2), some (.int a3), some (.int 0), none, none, none, none, none, none, none]) rfl (Nat.le_of_ble_eq_true rfl) rfl ?_
    refine E_aload_n rfl rfl ?_
    refine E_iload_n rfl rfl ?_
    refine E_iconst (x := 0) rfl (by decide) ?_
    refine E_bipush (x := 7) rfl (by decide) ?_
    have e5 : Ev ab_Z0 1 134 [.ref 65, .int a3, .int 0, .int 7] (w0.set 48 (.inl [0, 0, 0, 1, 0, 0, 0, 0])) (some (.int 1), (w0.set 48 (.inl [0, 0, 0, 1, 0, 0, 0, 0]))) := by
      refine Ef.in (md := mX6_isFrom) (L := [some (.ref 65), some (.int a3), some (.int 0), some (.int 7)]) rfl (Nat.le_of_ble_eq_true rfl) rfl ?_
      refine E_iload_n rfl rfl ?_
      refine E_iload_n rfl rfl ?_
      refine E_ic (t := 14) (b := false) rfl rfl ((cn_lt (rfl : (a3).toInt = (a3).toInt) (by decide : (0 : Int32).toInt = 0)).trans (decide_eq_false (by omega))) ?_
      refine E_iload_n rfl rfl ?_
      refine E_iload_n rfl rfl ?_
      refine E_ic (t := 14) (b := false) rfl rfl ((cn_gt (rfl : (a3).toInt = (a3).toInt) (by decide : (7 : Int32).toInt = 7)).trans (decide_eq_false (by omega))) ?_
      refine E_iconst (x := 1) rfl (by decide) ?_
      refine E_goto (t := 15) rfl rfl ?_
      exact E_iret rfl rfl
    refine E_callV (v := some (.int 1)) (As := [.ref 65, .int a3, .int 0, .int 7]) (r0 := []) (cs2 := (w0.set 48 (.inl [0, 0, 0, 1, 0, 0, 0, 0]))) rfl rfl rfl (Nat.le_of_ble_eq_true rfl) rfl rfl e5 (by decide) rfl ?_
    refine E_if (t := 15) (b := true) rfl rfl (by decide) ?_
    refine E_aload_n rfl rfl ?_
    refine E_iload_n rfl rfl ?_
    refine E_iload_n rfl rfl ?_
    refine E_bipush (x := 40) rfl (by decide) ?_
    refine E_iload rfl rfl ?_
    refine E_if (t := 31) (b := true) rfl rfl (by decide) ?_
    refine E_iconst (x := 1) rfl (by decide) ?_
    refine E_goto (t := 36) rfl rfl ?_
    have e26 : Ev ab_Z0 3 186 [.ref 65, .int 7, .int a2, .int 40, .int 1] (w0.set 48 (.inl [0, 0, 0, 1, 0, 0, 0, 0])) (some (.int (-3)), (w0.set 48 (.inl [0, 0, 0, 1, 0, 0, 0, 0]))) := by
      refine Ef.in (md := mX6_barsOf) (L := [some (.ref 65), some (.int 7), some (.int a2), some (.int 40), some (.int 1), none]) rfl (Nat.le_of_ble_eq_true rfl) rfl ?_
      refine E_aload_n rfl rfl ?_
      refine E_iload_n rfl rfl ?_
      refine E_callV (v := some (.int (-3))) (As := [.ref 65, .int 7]) (r0 := []) (cs2 := (w0.set 48 (.inl [0, 0, 0, 1, 0, 0, 0, 0]))) rfl rfl rfl (Nat.le_of_ble_eq_true rfl) rfl rfl c226_X6_wanted (by decide) rfl ?_
      refine E_istore (L2 := [some (.ref 65), some (.int 7), some (.int a2), some (.int 40), some (.int 1), some (.int (-3))]) rfl rfl ?_
      refine E_iload rfl rfl ?_
      refine E_if (t := 17) (b := false) rfl rfl (by decide) ?_
      refine E_iload rfl rfl ?_
      refine E_goto (t := 59) rfl rfl ?_
      exact E_iret rfl rfl
    refine E_callV (v := some (.int (-3))) (As := [.ref 65, .int 7, .int a2, .int 40, .int 1]) (r0 := []) (cs2 := (w0.set 48 (.inl [0, 0, 0, 1, 0, 0, 0, 0]))) rfl rfl rfl (Nat.le_of_ble_eq_true rfl) rfl rfl e26 (by decide) rfl ?_
    refine E_istore (L2 := [some (.ref 65), some (.int 7), some (.int a2), some (.int a3), some (.int 0), some (.int (-3)), none, none, none, none, none, none]) rfl rfl ?_
    refine E_iconst (x := 0) rfl (by decide) ?_
    refine E_istore (L2 := [some (.ref 65), some (.int 7), some (.int a2), some (.int a3), some (.int 0), some (.int (-3)), some (.int 0), none, none, none, none, none]) rfl rfl ?_
    refine E_iload rfl rfl ?_
    refine E_iload_n rfl rfl ?_
    refine E_ic (t := 80) (b := true) rfl rfl ((cn_ge (by decide : (0 : Int32).toInt = 0) (rfl : (a2).toInt = (a2).toInt)).trans (decide_eq_true (by omega))) ?_
    refine E_iload rfl rfl ?_
    refine E_if (t := 92) (b := false) rfl rfl (by decide) ?_
    refine E_aload_n rfl rfl ?_
    refine E_iload rfl rfl ?_
    refine E_callV (v := some (.int (-13))) (As := [.ref 65, .int (-3)]) (r0 := []) (cs2 := ((w0.set 48 (.inl [0, 0, 0, 1, 0, 0, 0, 0])).set 66 (.inl [0, 0, 0, 1, 0, 0, 0, 0]))) rfl rfl rfl (Nat.le_of_ble_eq_true rfl) rfl rfl c258_X6_noTen (by decide) (by simp only [List.length_set]) ?_
    exact E_iret rfl rfl, (by simp only [List.length_set]; rfl), (by simp only [List.length_set]; rfl), ((ab_szs rfl).trans ((ab_szs rfl).trans rfl)), fun _ => rfl⟩
theorem f_costs_40 (a2 a3 : Int32) (ha2l : (1 : Int) ≤ a2.toInt) (ha3l : (0 : Int) ≤ a3.toInt) (ha3h : a3.toInt ≤ 7) : p1_P 6 100 4 188 [.ref 0, .int 7, .int a2, .int a3, .int 0] [.ref 65, .int 7, .int a2, .int a3, .int 0] :=
  ⟨(-13), (w0.set 48 (.inl [0, 0, 0, 1, 0, 0, 0, 0])), ((w0.set 48 (.inl [0, 0, 0, 1, 0, 0, 0, 0])).set 66 (.inl [0, 0, 0, 1, 0, 0, 0, 0])), by
    refine Ef.in (md := mX5_costs) (L := [some (.ref 0), some (.int 7), some (.int a2), some (.int a3), some (.int 0), none, none, none, none]) rfl (Nat.le_of_ble_eq_true rfl) rfl ?_
    refine E_iload_n rfl rfl ?_
    have e2 : Ev ab_Z0 1 47 [.int a3] w0 (some (.int 1), w0) := by
      refine Ef.in (md := mX4_isWish) (L := [some (.int a3)]) rfl (Nat.le_of_ble_eq_true rfl) rfl ?_
      refine E_iload_n rfl rfl ?_
      refine E_if (t := 14) (b := false) rfl rfl ((cn_lt (rfl : (a3).toInt = (a3).toInt) (by decide : (0 : Int32).toInt = 0)).trans (decide_eq_false (by omega))) ?_
      refine E_iload_n rfl rfl ?_
      refine E_bipush (x := 8) rfl (by decide) ?_
      refine E_ic (t := 14) (b := false) rfl rfl ((cn_ge (rfl : (a3).toInt = (a3).toInt) (by decide : (8 : Int32).toInt = 8)).trans (decide_eq_false (by omega))) ?_
      refine E_iconst (x := 1) rfl (by decide) ?_
      refine E_goto (t := 15) rfl rfl ?_
      exact E_iret rfl rfl
    refine E_callS (v := some (.int 1)) (As := [.int a3]) (r0 := []) (cs2 := w0) rfl rfl rfl (Nat.le_of_ble_eq_true rfl) rfl e2 (by decide) rfl ?_
    refine E_if (t := 31) (b := false) rfl rfl (by decide) ?_
    refine E_aload_n rfl rfl ?_
    refine E_iload_n rfl rfl ?_
    refine E_iload_n rfl rfl ?_
    refine E_bipush (x := 40) rfl (by decide) ?_
    refine E_iload rfl rfl ?_
    refine E_callS (v := some (.int 1)) (As := [.int 0]) (r0 := [.int 40, .int a2, .int 7, .ref 0]) (cs2 := w0) rfl rfl rfl (Nat.le_of_ble_eq_true rfl) rfl c230_X5_isOneOfTwo (by decide) rfl ?_
    refine E_if (t := 24) (b := true) rfl rfl (by decide) ?_
    refine E_iconst (x := 0) rfl (by decide) ?_
    have e22 : Ev ab_Z0 3 120 [.ref 0, .int 7, .int a2, .int 40, .int 0] w0 (some (.int 3), w0) := by
      refine Ef.in (md := mX5_whyNoTwos) (L := [some (.ref 0), some (.int 7), some (.int a2), some (.int 40), some (.int 0), none]) rfl (Nat.le_of_ble_eq_true rfl) rfl ?_
      refine E_aload_n rfl rfl ?_
      refine E_iload_n rfl rfl ?_
      refine E_callV (v := some (.int 3)) (As := [.ref 0, .int 7]) (r0 := []) (cs2 := w0) rfl rfl rfl (Nat.le_of_ble_eq_true rfl) rfl rfl c60_X5_whyNoRow (by decide) rfl ?_
      refine E_istore (L2 := [some (.ref 0), some (.int 7), some (.int a2), some (.int 40), some (.int 0), some (.int 3)]) rfl rfl ?_
      refine E_iload rfl rfl ?_
      refine E_if (t := 15) (b := false) rfl rfl (by decide) ?_
      refine E_iload rfl rfl ?_
      exact E_iret rfl rfl
    refine E_callV (v := some (.int 3)) (As := [.ref 0, .int 7, .int a2, .int 40, .int 0]) (r0 := []) (cs2 := w0) rfl rfl rfl (Nat.le_of_ble_eq_true rfl) rfl rfl e22 (by decide) rfl ?_
    refine E_goto (t := 32) rfl rfl ?_
    refine E_istore (L2 := [some (.ref 0), some (.int 7), some (.int a2), some (.int a3), some (.int 0), some (.int 3), none, none, none]) rfl rfl ?_
    refine E_iload rfl rfl ?_
    refine E_if (t := 56) (b := true) rfl rfl (by decide) ?_
    refine E_iload rfl rfl ?_
    refine E_if (t := 71) (b := false) rfl rfl (by decide) ?_
    refine E_aload_n rfl rfl ?_
    refine E_iload rfl rfl ?_
    refine E_callV (v := some (.int (-3))) (As := [.ref 0, .int 3]) (r0 := []) (cs2 := (w0.set 48 (.inl [0, 0, 0, 1, 0, 0, 0, 0]))) rfl rfl rfl (Nat.le_of_ble_eq_true rfl) rfl rfl c32_X5_refuse (by decide) (by simp only [List.length_set]) ?_
    refine E_bipush (x := 10) rfl (by decide) ?_
    refine E_isub (z := (-13)) rfl (by decide) ?_
    exact E_iret rfl rfl, by
    refine Ef.in (md := mX6_costs) (L := [some (.ref 65), some (.int 7), some (.int a2), some (.int a3), some (.int 0), none, none, none, none, none, none, none]) rfl (Nat.le_of_ble_eq_true rfl) rfl ?_
    refine E_aload_n rfl rfl ?_
    refine E_iload_n rfl rfl ?_
    refine E_iconst (x := 0) rfl (by decide) ?_
    refine E_bipush (x := 7) rfl (by decide) ?_
    have e5 : Ev ab_Z0 1 134 [.ref 65, .int a3, .int 0, .int 7] (w0.set 48 (.inl [0, 0, 0, 1, 0, 0, 0, 0])) (some (.int 1), (w0.set 48 (.inl [0, 0, 0, 1, 0, 0, 0, 0]))) := by
      refine Ef.in (md := mX6_isFrom) (L := [some (.ref 65), some (.int a3), some (.int 0), some (.int 7)]) rfl (Nat.le_of_ble_eq_true rfl) rfl ?_
      refine E_iload_n rfl rfl ?_
      refine E_iload_n rfl rfl ?_
      refine E_ic (t := 14) (b := false) rfl rfl ((cn_lt (rfl : (a3).toInt = (a3).toInt) (by decide : (0 : Int32).toInt = 0)).trans (decide_eq_false (by omega))) ?_
      refine E_iload_n rfl rfl ?_
      refine E_iload_n rfl rfl ?_
      refine E_ic (t := 14) (b := false) rfl rfl ((cn_gt (rfl : (a3).toInt = (a3).toInt) (by decide : (7 : Int32).toInt = 7)).trans (decide_eq_false (by omega))) ?_
      refine E_iconst (x := 1) rfl (by decide) ?_
      refine E_goto (t := 15) rfl rfl ?_
      exact E_iret rfl rfl
    refine E_callV (v := some (.int 1)) (As := [.ref 65, .int a3, .int 0, .int 7]) (r0 := []) (cs2 := (w0.set 48 (.inl [0, 0, 0, 1, 0, 0, 0, 0]))) rfl rfl rfl (Nat.le_of_ble_eq_true rfl) rfl rfl e5 (by decide) rfl ?_
    refine E_if (t := 15) (b := true) rfl rfl (by decide) ?_
    refine E_aload_n rfl rfl ?_
    refine E_iload_n rfl rfl ?_
    refine E_iload_n rfl rfl ?_
    refine E_bipush (x := 40) rfl (by decide) ?_
    refine E_iload rfl rfl ?_
    refine E_if (t := 31) (b := true) rfl rfl (by decide) ?_
    refine E_iconst (x := 1) rfl (by decide) ?_
    refine E_goto (t := 36) rfl rfl ?_
    have e26 : Ev ab_Z0 3 186 [.ref 65, .int 7, .int a2, .int 40, .int 1] (w0.set 48 (.inl [0, 0, 0, 1, 0, 0, 0, 0])) (some (.int (-3)), (w0.set 48 (.inl [0, 0, 0, 1, 0, 0, 0, 0]))) := by
      refine Ef.in (md := mX6_barsOf) (L := [some (.ref 65), some (.int 7), some (.int a2), some (.int 40), some (.int 1), none]) rfl (Nat.le_of_ble_eq_true rfl) rfl ?_
      refine E_aload_n rfl rfl ?_
      refine E_iload_n rfl rfl ?_
      refine E_callV (v := some (.int (-3))) (As := [.ref 65, .int 7]) (r0 := []) (cs2 := (w0.set 48 (.inl [0, 0, 0, 1, 0, 0, 0, 0]))) rfl rfl rfl (Nat.le_of_ble_eq_true rfl) rfl rfl c226_X6_wanted (by decide) rfl ?_
      refine E_istore (L2 := [some (.ref 65), some (.int 7), some (.int a2), some (.int 40), some (.int 1), some (.int (-3))]) rfl rfl ?_
      refine E_iload rfl rfl ?_
      refine E_if (t := 17) (b := false) rfl rfl (by decide) ?_
      refine E_iload rfl rfl ?_
      refine E_goto (t := 59) rfl rfl ?_
      exact E_iret rfl rfl
    refine E_callV (v := some (.int (-3))) (As := [.ref 65, .int 7, .int a2, .int 40, .int 1]) (r0 := []) (cs2 := (w0.set 48 (.inl [0, 0, 0, 1, 0, 0, 0, 0]))) rfl rfl rfl (Nat.le_of_ble_eq_true rfl) rfl rfl e26 (by decide) rfl ?_
    refine E_istore (L2 := [some (.ref 65), some (.int 7), some (.int a2), some (.int a3), some (.int 0), some (.int (-3)), none, none, none, none, none, none]) rfl rfl ?_
    refine E_iconst (x := 0) rfl (by decide) ?_
    refine E_istore (L2 := [some (.ref 65), some (.int 7), some (.int a2), some (.int a3), some (.int 0), some (.int (-3)), some (.int 0), none, none, none, none, none]) rfl rfl ?_
    refine E_iload rfl rfl ?_
    refine E_iload_n rfl rfl ?_
    refine E_ic (t := 80) (b := false) rfl rfl ((cn_ge (by decide : (0 : Int32).toInt = 0) (rfl : (a2).toInt = (a2).toInt)).trans (decide_eq_false (by omega))) ?_
    refine E_iload rfl rfl ?_
    refine E_if (t := 80) (b := true) rfl rfl (by decide) ?_
    refine E_iload rfl rfl ?_
    refine E_if (t := 92) (b := false) rfl rfl (by decide) ?_
    refine E_aload_n rfl rfl ?_
    refine E_iload rfl rfl ?_
    refine E_callV (v := some (.int (-13))) (As := [.ref 65, .int (-3)]) (r0 := []) (cs2 := ((w0.set 48 (.inl [0, 0, 0, 1, 0, 0, 0, 0])).set 66 (.inl [0, 0, 0, 1, 0, 0, 0, 0]))) rfl rfl rfl (Nat.le_of_ble_eq_true rfl) rfl rfl c258_X6_noTen (by decide) (by simp only [List.length_set]) ?_
    exact E_iret rfl rfl, (by simp only [List.length_set]; rfl), (by simp only [List.length_set]; rfl), ((ab_szs rfl).trans ((ab_szs rfl).trans rfl)), fun _ => rfl⟩
theorem f_costs_41 (a1 a2 a3 : Int32) (ha1l : (8 : Int) ≤ a1.toInt) (ha2h : a2.toInt ≤ 0) (ha3l : (0 : Int) ≤ a3.toInt) (ha3h : a3.toInt ≤ 7) : p1_P 6 100 4 188 [.ref 0, .int a1, .int a2, .int a3, .int 0] [.ref 65, .int a1, .int a2, .int a3, .int 0] :=
  ⟨(-11), (w0.set 48 (.inl [0, 1, 0, 0, 0, 0, 0, 0])), ((w0.set 48 (.inl [0, 1, 0, 0, 0, 0, 0, 0])).set 66 (.inl [0, 1, 0, 0, 0, 0, 0, 0])), by
    refine Ef.in (md := mX5_costs) (L := [some (.ref 0), some (.int a1), some (.int a2), some (.int a3), some (.int 0), none, none, none, none]) rfl (Nat.le_of_ble_eq_true rfl) rfl ?_
    refine E_iload_n rfl rfl ?_
    have e2 : Ev ab_Z0 1 47 [.int a3] w0 (some (.int 1), w0) := by
      refine Ef.in (md := mX4_isWish) (L := [some (.int a3)]) rfl (Nat.le_of_ble_eq_true rfl) rfl ?_
      refine E_iload_n rfl rfl ?_
      refine E_if (t := 14) (b := false) rfl rfl ((cn_lt (rfl : (a3).toInt = (a3).toInt) (by decide : (0 : Int32).toInt = 0)).trans (decide_eq_false (by omega))) ?_
      refine E_iload_n rfl rfl ?_
      refine E_bipush (x := 8) rfl (by decide) ?_
      refine E_ic (t := 14) (b := false) rfl rfl ((cn_ge (rfl : (a3).toInt = (a3).toInt) (by decide : (8 : Int32).toInt = 8)).trans (decide_eq_false (by omega))) ?_
      refine E_iconst (x := 1) rfl (by decide) ?_
      refine E_goto (t := 15) rfl rfl ?_
      exact E_iret rfl rfl
    refine E_callS (v := some (.int 1)) (As := [.int a3]) (r0 := []) (cs2 := w0) rfl rfl rfl (Nat.le_of_ble_eq_true rfl) rfl e2 (by decide) rfl ?_
    refine E_if (t := 31) (b := false) rfl rfl (by decide) ?_
    refine E_aload_n rfl rfl ?_
    refine E_iload_n rfl rfl ?_
    refine E_iload_n rfl rfl ?_
    refine E_bipush (x := 40) rfl (by decide) ?_
    refine E_iload rfl rfl ?_
    refine E_callS (v := some (.int 1)) (As := [.int 0]) (r0 := [.int 40, .int a2, .int a1, .ref 0]) (cs2 := w0) rfl rfl rfl (Nat.le_of_ble_eq_true rfl) rfl c230_X5_isOneOfTwo (by decide) rfl ?_
    refine E_if (t := 24) (b := true) rfl rfl (by decide) ?_
    refine E_iconst (x := 0) rfl (by decide) ?_
    have e22 : Ev ab_Z0 3 120 [.ref 0, .int a1, .int a2, .int 40, .int 0] w0 (some (.int 1), w0) := by
      refine Ef.in (md := mX5_whyNoTwos) (L := [some (.ref 0), some (.int a1), some (.int a2), some (.int 40), some (.int 0), none]) rfl (Nat.le_of_ble_eq_true rfl) rfl ?_
      refine E_aload_n rfl rfl ?_
      refine E_iload_n rfl rfl ?_
      have e3 : Ev ab_Z0 2 119 [.ref 0, .int a1] w0 (some (.int 1), w0) := by
        refine Ef.in (md := mX5_whyNoRow) (L := [some (.ref 0), some (.int a1)]) rfl (Nat.le_of_ble_eq_true rfl) rfl ?_
        refine E_iload_n rfl rfl ?_
        have e2 : Ev ab_Z0 1 117 [.int a1] w0 (some (.int 0), w0) := by
          refine Ef.in (md := mX5_isShelf) (L := [some (.int a1)]) rfl (Nat.le_of_ble_eq_true rfl) rfl ?_
          refine E_iload_n rfl rfl ?_
          refine E_if (t := 14) (b := false) rfl rfl ((cn_lt (rfl : (a1).toInt = (a1).toInt) (by decide : (0 : Int32).toInt = 0)).trans (decide_eq_false (by omega))) ?_
          refine E_iload_n rfl rfl ?_
          refine E_bipush (x := 8) rfl (by decide) ?_
          refine E_ic (t := 14) (b := true) rfl rfl ((cn_ge (rfl : (a1).toInt = (a1).toInt) (by decide : (8 : Int32).toInt = 8)).trans (decide_eq_true (by omega))) ?_
          refine E_iconst (x := 0) rfl (by decide) ?_
          exact E_iret rfl rfl
        refine E_callS (v := some (.int 0)) (As := [.int a1]) (r0 := []) (cs2 := w0) rfl rfl rfl (Nat.le_of_ble_eq_true rfl) rfl e2 (by decide) rfl ?_
        refine E_if (t := 9) (b := false) rfl rfl (by decide) ?_
        refine E_iconst (x := 1) rfl (by decide) ?_
        exact E_iret rfl rfl
      refine E_callV (v := some (.int 1)) (As := [.ref 0, .int a1]) (r0 := []) (cs2 := w0) rfl rfl rfl (Nat.le_of_ble_eq_true rfl) rfl rfl e3 (by decide) rfl ?_
      refine E_istore (L2 := [some (.ref 0), some (.int a1), some (.int a2), some (.int 40), some (.int 0), some (.int 1)]) rfl rfl ?_
      refine E_iload rfl rfl ?_
      refine E_if (t := 15) (b := false) rfl rfl (by decide) ?_
      refine E_iload rfl rfl ?_
      exact E_iret rfl rfl
    refine E_callV (v := some (.int 1)) (As := [.ref 0, .int a1, .int a2, .int 40, .int 0]) (r0 := []) (cs2 := w0) rfl rfl rfl (Nat.le_of_ble_eq_true rfl) rfl rfl e22 (by decide) rfl ?_
    refine E_goto (t := 32) rfl rfl ?_
    refine E_istore (L2 := [some (.ref 0), some (.int a1), some (.int a2), some (.int a3), some (.int 0), some (.int 1), none, none, none]) rfl rfl ?_
    refine E_iload rfl rfl ?_
    refine E_if (t := 56) (b := true) rfl rfl (by decide) ?_
    refine E_iload rfl rfl ?_
    refine E_if (t := 71) (b := false) rfl rfl (by decide) ?_
    refine E_aload_n rfl rfl ?_
    refine E_iload rfl rfl ?_
    refine E_callV (v := some (.int (-1))) (As := [.ref 0, .int 1]) (r0 := []) (cs2 := (w0.set 48 (.inl [0, 1, 0, 0, 0, 0, 0, 0]))) rfl rfl rfl (Nat.le_of_ble_eq_true rfl) rfl rfl c1_X5_refuse (by decide) (by simp only [List.length_set]) ?_
    refine E_bipush (x := 10) rfl (by decide) ?_
    refine E_isub (z := (-11)) rfl (by decide) ?_
    exact E_iret rfl rfl, by
    refine Ef.in (md := mX6_costs) (L := [some (.ref 65), some (.int a1), some (.int a2), some (.int a3), some (.int 0), none, none, none, none, none, none, none]) rfl (Nat.le_of_ble_eq_true rfl) rfl ?_
    refine E_aload_n rfl rfl ?_
    refine E_iload_n rfl rfl ?_
    refine E_iconst (x := 0) rfl (by decide) ?_
    refine E_bipush (x := 7) rfl (by decide) ?_
    have e5 : Ev ab_Z0 1 134 [.ref 65, .int a3, .int 0, .int 7] (w0.set 48 (.inl [0, 1, 0, 0, 0, 0, 0, 0])) (some (.int 1), (w0.set 48 (.inl [0, 1, 0, 0, 0, 0, 0, 0]))) := by
      refine Ef.in (md := mX6_isFrom) (L := [some (.ref 65), some (.int a3), some (.int 0), some (.int 7)]) rfl (Nat.le_of_ble_eq_true rfl) rfl ?_
      refine E_iload_n rfl rfl ?_
      refine E_iload_n rfl rfl ?_
      refine E_ic (t := 14) (b := false) rfl rfl ((cn_lt (rfl : (a3).toInt = (a3).toInt) (by decide : (0 : Int32).toInt = 0)).trans (decide_eq_false (by omega))) ?_
      refine E_iload_n rfl rfl ?_
      refine E_iload_n rfl rfl ?_
      refine E_ic (t := 14) (b := false) rfl rfl ((cn_gt (rfl : (a3).toInt = (a3).toInt) (by decide : (7 : Int32).toInt = 7)).trans (decide_eq_false (by omega))) ?_
      refine E_iconst (x := 1) rfl (by decide) ?_
      refine E_goto (t := 15) rfl rfl ?_
      exact E_iret rfl rfl
    refine E_callV (v := some (.int 1)) (As := [.ref 65, .int a3, .int 0, .int 7]) (r0 := []) (cs2 := (w0.set 48 (.inl [0, 1, 0, 0, 0, 0, 0, 0]))) rfl rfl rfl (Nat.le_of_ble_eq_true rfl) rfl rfl e5 (by decide) rfl ?_
    refine E_if (t := 15) (b := true) rfl rfl (by decide) ?_
    refine E_aload_n rfl rfl ?_
    refine E_iload_n rfl rfl ?_
    refine E_iload_n rfl rfl ?_
    refine E_bipush (x := 40) rfl (by decide) ?_
    refine E_iload rfl rfl ?_
    refine E_if (t := 31) (b := true) rfl rfl (by decide) ?_
    refine E_iconst (x := 1) rfl (by decide) ?_
    refine E_goto (t := 36) rfl rfl ?_
    have e26 : Ev ab_Z0 3 186 [.ref 65, .int a1, .int a2, .int 40, .int 1] (w0.set 48 (.inl [0, 1, 0, 0, 0, 0, 0, 0])) (some (.int (-1)), (w0.set 48 (.inl [0, 1, 0, 0, 0, 0, 0, 0]))) := by
      refine Ef.in (md := mX6_barsOf) (L := [some (.ref 65), some (.int a1), some (.int a2), some (.int 40), some (.int 1), none]) rfl (Nat.le_of_ble_eq_true rfl) rfl ?_
      refine E_aload_n rfl rfl ?_
      refine E_iload_n rfl rfl ?_
      have e3 : Ev ab_Z0 2 142 [.ref 65, .int a1] (w0.set 48 (.inl [0, 1, 0, 0, 0, 0, 0, 0])) (some (.int (-1)), (w0.set 48 (.inl [0, 1, 0, 0, 0, 0, 0, 0]))) := by
        refine Ef.in (md := mX6_wanted) (L := [some (.ref 65), some (.int a1)]) rfl (Nat.le_of_ble_eq_true rfl) rfl ?_
        refine E_aload_n rfl rfl ?_
        refine E_iload_n rfl rfl ?_
        have e3 : Ev ab_Z0 1 131 [.ref 65, .int a1] (w0.set 48 (.inl [0, 1, 0, 0, 0, 0, 0, 0])) (some (.int 0), (w0.set 48 (.inl [0, 1, 0, 0, 0, 0, 0, 0]))) := by
          refine Ef.in (md := mX6_isShelf) (L := [some (.ref 65), some (.int a1)]) rfl (Nat.le_of_ble_eq_true rfl) rfl ?_
          refine E_iload_n rfl rfl ?_
          refine E_if (t := 14) (b := false) rfl rfl ((cn_lt (rfl : (a1).toInt = (a1).toInt) (by decide : (0 : Int32).toInt = 0)).trans (decide_eq_false (by omega))) ?_
          refine E_iload_n rfl rfl ?_
          refine E_bipush (x := 8) rfl (by decide) ?_
          refine E_ic (t := 14) (b := true) rfl rfl ((cn_ge (rfl : (a1).toInt = (a1).toInt) (by decide : (8 : Int32).toInt = 8)).trans (decide_eq_true (by omega))) ?_
          refine E_iconst (x := 0) rfl (by decide) ?_
          exact E_iret rfl rfl
        refine E_callV (v := some (.int 0)) (As := [.ref 65, .int a1]) (r0 := []) (cs2 := (w0.set 48 (.inl [0, 1, 0, 0, 0, 0, 0, 0]))) rfl rfl rfl (Nat.le_of_ble_eq_true rfl) rfl rfl e3 (by decide) rfl ?_
        refine E_if (t := 12) (b := false) rfl rfl (by decide) ?_
        refine E_iconst (x := (-1)) rfl (by decide) ?_
        refine E_goto (t := 42) rfl rfl ?_
        exact E_iret rfl rfl
      refine E_callV (v := some (.int (-1))) (As := [.ref 65, .int a1]) (r0 := []) (cs2 := (w0.set 48 (.inl [0, 1, 0, 0, 0, 0, 0, 0]))) rfl rfl rfl (Nat.le_of_ble_eq_true rfl) rfl rfl e3 (by decide) rfl ?_
      refine E_istore (L2 := [some (.ref 65), some (.int a1), some (.int a2), some (.int 40), some (.int 1), some (.int (-1))]) rfl rfl ?_
      refine E_iload rfl rfl ?_
      refine E_if (t := 17) (b := false) rfl rfl (by decide) ?_
      refine E_iload rfl rfl ?_
      refine E_goto (t := 59) rfl rfl ?_
      exact E_iret rfl rfl
    refine E_callV (v := some (.int (-1))) (As := [.ref 65, .int a1, .int a2, .int 40, .int 1]) (r0 := []) (cs2 := (w0.set 48 (.inl [0, 1, 0, 0, 0, 0, 0, 0]))) rfl rfl rfl (Nat.le_of_ble_eq_true rfl) rfl rfl e26 (by decide) rfl ?_
    refine E_istore (L2 := [some (.ref 65), some (.int a1), some (.int a2), some (.int a3), some (.int 0), some (.int (-1)), none, none, none, none, none, none]) rfl rfl ?_
    refine E_iconst (x := 0) rfl (by decide) ?_
    refine E_istore (L2 := [some (.ref 65), some (.int a1), some (.int a2), some (.int a3), some (.int 0), some (.int (-1)), some (.int 0), none, none, none, none, none]) rfl rfl ?_
    refine E_iload rfl rfl ?_
    refine E_iload_n rfl rfl ?_
    refine E_ic (t := 80) (b := true) rfl rfl ((cn_ge (by decide : (0 : Int32).toInt = 0) (rfl : (a2).toInt = (a2).toInt)).trans (decide_eq_true (by omega))) ?_
    refine E_iload rfl rfl ?_
    refine E_if (t := 92) (b := false) rfl rfl (by decide) ?_
    refine E_aload_n rfl rfl ?_
    refine E_iload rfl rfl ?_
    refine E_callV (v := some (.int (-11))) (As := [.ref 65, .int (-1)]) (r0 := []) (cs2 := ((w0.set 48 (.inl [0, 1, 0, 0, 0, 0, 0, 0])).set 66 (.inl [0, 1, 0, 0, 0, 0, 0, 0]))) rfl rfl rfl (Nat.le_of_ble_eq_true rfl) rfl rfl c247_X6_noTen (by decide) (by simp only [List.length_set]) ?_
    exact E_iret rfl rfl, (by simp only [List.length_set]; rfl), (by simp only [List.length_set]; rfl), ((ab_szs rfl).trans ((ab_szs rfl).trans rfl)), fun _ => rfl⟩
theorem f_costs_42 (a1 a2 a3 : Int32) (ha1l : (8 : Int) ≤ a1.toInt) (ha2l : (1 : Int) ≤ a2.toInt) (ha3l : (0 : Int) ≤ a3.toInt) (ha3h : a3.toInt ≤ 7) : p1_P 6 100 4 188 [.ref 0, .int a1, .int a2, .int a3, .int 0] [.ref 65, .int a1, .int a2, .int a3, .int 0] :=
  ⟨(-11), (w0.set 48 (.inl [0, 1, 0, 0, 0, 0, 0, 0])), ((w0.set 48 (.inl [0, 1, 0, 0, 0, 0, 0, 0])).set 66 (.inl [0, 1, 0, 0, 0, 0, 0, 0])), by
    refine Ef.in (md := mX5_costs) (L := [some (.ref 0), some (.int a1), some (.int a2), some (.int a3), some (.int 0), none, none, none, none]) rfl (Nat.le_of_ble_eq_true rfl) rfl ?_
    refine E_iload_n rfl rfl ?_
    have e2 : Ev ab_Z0 1 47 [.int a3] w0 (some (.int 1), w0) := by
      refine Ef.in (md := mX4_isWish) (L := [some (.int a3)]) rfl (Nat.le_of_ble_eq_true rfl) rfl ?_
      refine E_iload_n rfl rfl ?_
      refine E_if (t := 14) (b := false) rfl rfl ((cn_lt (rfl : (a3).toInt = (a3).toInt) (by decide : (0 : Int32).toInt = 0)).trans (decide_eq_false (by omega))) ?_
      refine E_iload_n rfl rfl ?_
      refine E_bipush (x := 8) rfl (by decide) ?_
      refine E_ic (t := 14) (b := false) rfl rfl ((cn_ge (rfl : (a3).toInt = (a3).toInt) (by decide : (8 : Int32).toInt = 8)).trans (decide_eq_false (by omega))) ?_
      refine E_iconst (x := 1) rfl (by decide) ?_
      refine E_goto (t := 15) rfl rfl ?_
      exact E_iret rfl rfl
    refine E_callS (v := some (.int 1)) (As := [.int a3]) (r0 := []) (cs2 := w0) rfl rfl rfl (Nat.le_of_ble_eq_true rfl) rfl e2 (by decide) rfl ?_
    refine E_if (t := 31) (b := false) rfl rfl (by decide) ?_
    refine E_aload_n rfl rfl ?_
    refine E_iload_n rfl rfl ?_
    refine E_iload_n rfl rfl ?_
    refine E_bipush (x := 40) rfl (by decide) ?_
    refine E_iload rfl rfl ?_
    refine E_callS (v := some (.int 1)) (As := [.int 0]) (r0 := [.int 40, .int a2, .int a1, .ref 0]) (cs2 := w0) rfl rfl rfl (Nat.le_of_ble_eq_true rfl) rfl c230_X5_isOneOfTwo (by decide) rfl ?_
    refine E_if (t := 24) (b := true) rfl rfl (by decide) ?_
    refine E_iconst (x := 0) rfl (by decide) ?_
    have e22 : Ev ab_Z0 3 120 [.ref 0, .int a1, .int a2, .int 40, .int 0] w0 (some (.int 1), w0) := by
      refine Ef.in (md := mX5_whyNoTwos) (L := [some (.ref 0), some (.int a1), some (.int a2), some (.int 40), some (.int 0), none]) rfl (Nat.le_of_ble_eq_true rfl) rfl ?_
      refine E_aload_n rfl rfl ?_
      refine E_iload_n rfl rfl ?_
      have e3 : Ev ab_Z0 2 119 [.ref 0, .int a1] w0 (some (.int 1), w0) := by
        refine Ef.in (md := mX5_whyNoRow) (L := [some (.ref 0), some (.int a1)]) rfl (Nat.le_of_ble_eq_true rfl) rfl ?_
        refine E_iload_n rfl rfl ?_
        have e2 : Ev ab_Z0 1 117 [.int a1] w0 (some (.int 0), w0) := by
          refine Ef.in (md := mX5_isShelf) (L := [some (.int a1)]) rfl (Nat.le_of_ble_eq_true rfl) rfl ?_
          refine E_iload_n rfl rfl ?_
          refine E_if (t := 14) (b := false) rfl rfl ((cn_lt (rfl : (a1).toInt = (a1).toInt) (by decide : (0 : Int32).toInt = 0)).trans (decide_eq_false (by omega))) ?_
          refine E_iload_n rfl rfl ?_
          refine E_bipush (x := 8) rfl (by decide) ?_
          refine E_ic (t := 14) (b := true) rfl rfl ((cn_ge (rfl : (a1).toInt = (a1).toInt) (by decide : (8 : Int32).toInt = 8)).trans (decide_eq_true (by omega))) ?_
          refine E_iconst (x := 0) rfl (by decide) ?_
          exact E_iret rfl rfl
        refine E_callS (v := some (.int 0)) (As := [.int a1]) (r0 := []) (cs2 := w0) rfl rfl rfl (Nat.le_of_ble_eq_true rfl) rfl e2 (by decide) rfl ?_
        refine E_if (t := 9) (b := false) rfl rfl (by decide) ?_
        refine E_iconst (x := 1) rfl (by decide) ?_
        exact E_iret rfl rfl
      refine E_callV (v := some (.int 1)) (As := [.ref 0, .int a1]) (r0 := []) (cs2 := w0) rfl rfl rfl (Nat.le_of_ble_eq_true rfl) rfl rfl e3 (by decide) rfl ?_
      refine E_istore (L2 := [some (.ref 0), some (.int a1), some (.int a2), some (.int 40), some (.int 0), some (.int 1)]) rfl rfl ?_
      refine E_iload rfl rfl ?_
      refine E_if (t := 15) (b := false) rfl rfl (by decide) ?_
      refine E_iload rfl rfl ?_
      exact E_iret rfl rfl
    refine E_callV (v := some (.int 1)) (As := [.ref 0, .int a1, .int a2, .int 40, .int 0]) (r0 := []) (cs2 := w0) rfl rfl rfl (Nat.le_of_ble_eq_true rfl) rfl rfl e22 (by decide) rfl ?_
    refine E_goto (t := 32) rfl rfl ?_
    refine E_istore (L2 := [some (.ref 0), some (.int a1), some (.int a2), some (.int a3), some (.int 0), some (.int 1), none, none, none]) rfl rfl ?_
    refine E_iload rfl rfl ?_
    refine E_if (t := 56) (b := true) rfl rfl (by decide) ?_
    refine E_iload rfl rfl ?_
    refine E_if (t := 71) (b := false) rfl rfl (by decide) ?_
    refine E_aload_n rfl rfl ?_
    refine E_iload rfl rfl ?_
    refine E_callV (v := some (.int (-1))) (As := [.ref 0, .int 1]) (r0 := []) (cs2 := (w0.set 48 (.inl [0, 1, 0, 0, 0, 0, 0, 0]))) rfl rfl rfl (Nat.le_of_ble_eq_true rfl) rfl rfl c1_X5_refuse (by decide) (by simp only [List.length_set]) ?_
    refine E_bipush (x := 10) rfl (by decide) ?_
    refine E_isub (z := (-11)) rfl (by decide) ?_
    exact E_iret rfl rfl, by
    refine Ef.in (md := mX6_costs) (L := [some (.ref 65), some (.int a1), some (.int a2), some (.int a3), some (.int 0), none, none, none, none, none, none, none]) rfl (Nat.le_of_ble_eq_true rfl) rfl ?_
    refine E_aload_n rfl rfl ?_
    refine E_iload_n rfl rfl ?_
    refine E_iconst (x := 0) rfl (by decide) ?_
    refine E_bipush (x := 7) rfl (by decide) ?_
    have e5 : Ev ab_Z0 1 134 [.ref 65, .int a3, .int 0, .int 7] (w0.set 48 (.inl [0, 1, 0, 0, 0, 0, 0, 0])) (some (.int 1), (w0.set 48 (.inl [0, 1, 0, 0, 0, 0, 0, 0]))) := by
      refine Ef.in (md := mX6_isFrom) (L := [some (.ref 65), some (.int a3), some (.int 0), some (.int 7)]) rfl (Nat.le_of_ble_eq_true rfl) rfl ?_
      refine E_iload_n rfl rfl ?_
      refine E_iload_n rfl rfl ?_
      refine E_ic (t := 14) (b := false) rfl rfl ((cn_lt (rfl : (a3).toInt = (a3).toInt) (by decide : (0 : Int32).toInt = 0)).trans (decide_eq_false (by omega))) ?_
      refine E_iload_n rfl rfl ?_
      refine E_iload_n rfl rfl ?_
      refine E_ic (t := 14) (b := false) rfl rfl ((cn_gt (rfl : (a3).toInt = (a3).toInt) (by decide : (7 : Int32).toInt = 7)).trans (decide_eq_false (by omega))) ?_
      refine E_iconst (x := 1) rfl (by decide) ?_
      refine E_goto (t := 15) rfl rfl ?_
      exact E_iret rfl rfl
    refine E_callV (v := some (.int 1)) (As := [.ref 65, .int a3, .int 0, .int 7]) (r0 := []) (cs2 := (w0.set 48 (.inl [0, 1, 0, 0, 0, 0, 0, 0]))) rfl rfl rfl (Nat.le_of_ble_eq_true rfl) rfl rfl e5 (by decide) rfl ?_
    refine E_if (t := 15) (b := true) rfl rfl (by decide) ?_
    refine E_aload_n rfl rfl ?_
    refine E_iload_n rfl rfl ?_
    refine E_iload_n rfl rfl ?_
    refine E_bipush (x := 40) rfl (by decide) ?_
    refine E_iload rfl rfl ?_
    refine E_if (t := 31) (b := true) rfl rfl (by decide) ?_
    refine E_iconst (x := 1) rfl (by decide) ?_
    refine E_goto (t := 36) rfl rfl ?_
    have e26 : Ev ab_Z0 3 186 [.ref 65, .int a1, .int a2, .int 40, .int 1] (w0.set 48 (.inl [0, 1, 0, 0, 0, 0, 0, 0])) (some (.int (-1)), (w0.set 48 (.inl [0, 1, 0, 0, 0, 0, 0, 0]))) := by
      refine Ef.in (md := mX6_barsOf) (L := [some (.ref 65), some (.int a1), some (.int a2), some (.int 40), some (.int 1), none]) rfl (Nat.le_of_ble_eq_true rfl) rfl ?_
      refine E_aload_n rfl rfl ?_
      refine E_iload_n rfl rfl ?_
      have e3 : Ev ab_Z0 2 142 [.ref 65, .int a1] (w0.set 48 (.inl [0, 1, 0, 0, 0, 0, 0, 0])) (some (.int (-1)), (w0.set 48 (.inl [0, 1, 0, 0, 0, 0, 0, 0]))) := by
        refine Ef.in (md := mX6_wanted) (L := [some (.ref 65), some (.int a1)]) rfl (Nat.le_of_ble_eq_true rfl) rfl ?_
        refine E_aload_n rfl rfl ?_
        refine E_iload_n rfl rfl ?_
        have e3 : Ev ab_Z0 1 131 [.ref 65, .int a1] (w0.set 48 (.inl [0, 1, 0, 0, 0, 0, 0, 0])) (some (.int 0), (w0.set 48 (.inl [0, 1, 0, 0, 0, 0, 0, 0]))) := by
          refine Ef.in (md := mX6_isShelf) (L := [some (.ref 65), some (.int a1)]) rfl (Nat.le_of_ble_eq_true rfl) rfl ?_
          refine E_iload_n rfl rfl ?_
          refine E_if (t := 14) (b := false) rfl rfl ((cn_lt (rfl : (a1).toInt = (a1).toInt) (by decide : (0 : Int32).toInt = 0)).trans (decide_eq_false (by omega))) ?_
          refine E_iload_n rfl rfl ?_
          refine E_bipush (x := 8) rfl (by decide) ?_
          refine E_ic (t := 14) (b := true) rfl rfl ((cn_ge (rfl : (a1).toInt = (a1).toInt) (by decide : (8 : Int32).toInt = 8)).trans (decide_eq_true (by omega))) ?_
          refine E_iconst (x := 0) rfl (by decide) ?_
          exact E_iret rfl rfl
        refine E_callV (v := some (.int 0)) (As := [.ref 65, .int a1]) (r0 := []) (cs2 := (w0.set 48 (.inl [0, 1, 0, 0, 0, 0, 0, 0]))) rfl rfl rfl (Nat.le_of_ble_eq_true rfl) rfl rfl e3 (by decide) rfl ?_
        refine E_if (t := 12) (b := false) rfl rfl (by decide) ?_
        refine E_iconst (x := (-1)) rfl (by decide) ?_
        refine E_goto (t := 42) rfl rfl ?_
        exact E_iret rfl rfl
      refine E_callV (v := some (.int (-1))) (As := [.ref 65, .int a1]) (r0 := []) (cs2 := (w0.set 48 (.inl [0, 1, 0, 0, 0, 0, 0, 0]))) rfl rfl rfl (Nat.le_of_ble_eq_true rfl) rfl rfl e3 (by decide) rfl ?_
      refine E_istore (L2 := [some (.ref 65), some (.int a1), some (.int a2), some (.int 40), some (.int 1), some (.int (-1))]) rfl rfl ?_
      refine E_iload rfl rfl ?_
      refine E_if (t := 17) (b := false) rfl rfl (by decide) ?_
      refine E_iload rfl rfl ?_
      refine E_goto (t := 59) rfl rfl ?_
      exact E_iret rfl rfl
    refine E_callV (v := some (.int (-1))) (As := [.ref 65, .int a1, .int a2, .int 40, .int 1]) (r0 := []) (cs2 := (w0.set 48 (.inl [0, 1, 0, 0, 0, 0, 0, 0]))) rfl rfl rfl (Nat.le_of_ble_eq_true rfl) rfl rfl e26 (by decide) rfl ?_
    refine E_istore (L2 := [some (.ref 65), some (.int a1), some (.int a2), some (.int a3), some (.int 0), some (.int (-1)), none, none, none, none, none, none]) rfl rfl ?_
    refine E_iconst (x := 0) rfl (by decide) ?_
    refine E_istore (L2 := [some (.ref 65), some (.int a1), some (.int a2), some (.int a3), some (.int 0), some (.int (-1)), some (.int 0), none, none, none, none, none]) rfl rfl ?_
    refine E_iload rfl rfl ?_
    refine E_iload_n rfl rfl ?_
    refine E_ic (t := 80) (b := false) rfl rfl ((cn_ge (by decide : (0 : Int32).toInt = 0) (rfl : (a2).toInt = (a2).toInt)).trans (decide_eq_false (by omega))) ?_
    refine E_iload rfl rfl ?_
    refine E_if (t := 80) (b := true) rfl rfl (by decide) ?_
    refine E_iload rfl rfl ?_
    refine E_if (t := 92) (b := false) rfl rfl (by decide) ?_
    refine E_aload_n rfl rfl ?_
    refine E_iload rfl rfl ?_
    refine E_callV (v := some (.int (-11))) (As := [.ref 65, .int (-1)]) (r0 := []) (cs2 := ((w0.set 48 (.inl [0, 1, 0, 0, 0, 0, 0, 0])).set 66 (.inl [0, 1, 0, 0, 0, 0, 0, 0]))) rfl rfl rfl (Nat.le_of_ble_eq_true rfl) rfl rfl c247_X6_noTen (by decide) (by simp only [List.length_set]) ?_
    exact E_iret rfl rfl, (by simp only [List.length_set]; rfl), (by simp only [List.length_set]; rfl), ((ab_szs rfl).trans ((ab_szs rfl).trans rfl)), fun _ => rfl⟩
theorem f_costs_43 (a1 a2 a3 : Int32) (ha1h : a1.toInt ≤ -1) (ha2h : a2.toInt ≤ 0) (ha3l : (0 : Int) ≤ a3.toInt) (ha3h : a3.toInt ≤ 7) : p1_P 6 100 4 188 [.ref 0, .int a1, .int a2, .int a3, .int 1] [.ref 65, .int a1, .int a2, .int a3, .int 1] :=
  ⟨(-11), (w0.set 48 (.inl [0, 1, 0, 0, 0, 0, 0, 0])), ((w0.set 48 (.inl [0, 1, 0, 0, 0, 0, 0, 0])).set 66 (.inl [0, 1, 0, 0, 0, 0, 0, 0])), by
    refine Ef.in (md := mX5_costs) (L := [some (.ref 0), some (.int a1), some (.int a2), some (.int a3), some (.int 1), none, none, none, none]) rfl (Nat.le_of_ble_eq_true rfl) rfl ?_
    refine E_iload_n rfl rfl ?_
    have e2 : Ev ab_Z0 1 47 [.int a3] w0 (some (.int 1), w0) := by
      refine Ef.in (md := mX4_isWish) (L := [some (.int a3)]) rfl (Nat.le_of_ble_eq_true rfl) rfl ?_
      refine E_iload_n rfl rfl ?_
      refine E_if (t := 14) (b := false) rfl rfl ((cn_lt (rfl : (a3).toInt = (a3).toInt) (by decide : (0 : Int32).toInt = 0)).trans (decide_eq_false (by omega))) ?_
      refine E_iload_n rfl rfl ?_
      refine E_bipush (x := 8) rfl (by decide) ?_
      refine E_ic (t := 14) (b := false) rfl rfl ((cn_ge (rfl : (a3).toInt = (a3).toInt) (by decide : (8 : Int32).toInt = 8)).trans (decide_eq_false (by omega))) ?_
      refine E_iconst (x := 1) rfl (by decide) ?_
      refine E_goto (t := 15) rfl rfl ?_
      exact E_iret rfl rfl
    refine E_callS (v := some (.int 1)) (As := [.int a3]) (r0 := []) (cs2 := w0) rfl rfl rfl (Nat.le_of_ble_eq_true rfl) rfl e2 (by decide) rfl ?_
    refine E_if (t := 31) (b := false) rfl rfl (by decide) ?_
    refine E_aload_n rfl rfl ?_
    refine E_iload_n rfl rfl ?_
    refine E_iload_n rfl rfl ?_
    refine E_bipush (x := 40) rfl (by decide) ?_
    refine E_iload rfl rfl ?_
    refine E_callS (v := some (.int 1)) (As := [.int 1]) (r0 := [.int 40, .int a2, .int a1, .ref 0]) (cs2 := w0) rfl rfl rfl (Nat.le_of_ble_eq_true rfl) rfl c239_X5_isOneOfTwo (by decide) rfl ?_
    refine E_if (t := 24) (b := true) rfl rfl (by decide) ?_
    refine E_iconst (x := 0) rfl (by decide) ?_
    have e22 : Ev ab_Z0 3 120 [.ref 0, .int a1, .int a2, .int 40, .int 0] w0 (some (.int 1), w0) := by
      refine Ef.in (md := mX5_whyNoTwos) (L := [some (.ref 0), some (.int a1), some (.int a2), some (.int 40), some (.int 0), none]) rfl (Nat.le_of_ble_eq_true rfl) rfl ?_
      refine E_aload_n rfl rfl ?_
      refine E_iload_n rfl rfl ?_
      have e3 : Ev ab_Z0 2 119 [.ref 0, .int a1] w0 (some (.int 1), w0) := by
        refine Ef.in (md := mX5_whyNoRow) (L := [some (.ref 0), some (.int a1)]) rfl (Nat.le_of_ble_eq_true rfl) rfl ?_
        refine E_iload_n rfl rfl ?_
        have e2 : Ev ab_Z0 1 117 [.int a1] w0 (some (.int 0), w0) := by
          refine Ef.in (md := mX5_isShelf) (L := [some (.int a1)]) rfl (Nat.le_of_ble_eq_true rfl) rfl ?_
          refine E_iload_n rfl rfl ?_
          refine E_if (t := 14) (b := true) rfl rfl ((cn_lt (rfl : (a1).toInt = (a1).toInt) (by decide : (0 : Int32).toInt = 0)).trans (decide_eq_true (by omega))) ?_
          refine E_iconst (x := 0) rfl (by decide) ?_
          exact E_iret rfl rfl
        refine E_callS (v := some (.int 0)) (As := [.int a1]) (r0 := []) (cs2 := w0) rfl rfl rfl (Nat.le_of_ble_eq_true rfl) rfl e2 (by decide) rfl ?_
        refine E_if (t := 9) (b := false) rfl rfl (by decide) ?_
        refine E_iconst (x := 1) rfl (by decide) ?_
        exact E_iret rfl rfl
      refine E_callV (v := some (.int 1)) (As := [.ref 0, .int a1]) (r0 := []) (cs2 := w0) rfl rfl rfl (Nat.le_of_ble_eq_true rfl) rfl rfl e3 (by decide) rfl ?_
      refine E_istore (L2 := [some (.ref 0), some (.int a1), some (.int a2), some (.int 40), some (.int 0), some (.int 1)]) rfl rfl ?_
      refine E_iload rfl rfl ?_
      refine E_if (t := 15) (b := false) rfl rfl (by decide) ?_
      refine E_iload rfl rfl ?_
      exact E_iret rfl rfl
    refine E_callV (v := some (.int 1)) (As := [.ref 0, .int a1, .int a2, .int 40, .int 0]) (r0 := []) (cs2 := w0) rfl rfl rfl (Nat.le_of_ble_eq_true rfl) rfl rfl e22 (by decide) rfl ?_
    refine E_goto (t := 32) rfl rfl ?_
    refine E_istore (L2 := [some (.ref 0), some (.int a1), some (.int a2), some (.int a3), some (.int 1), some (.int 1), none, none, none]) rfl rfl ?_
    refine E_iload rfl rfl ?_
    refine E_if (t := 56) (b := true) rfl rfl (by decide) ?_
    refine E_iload rfl rfl ?_
    refine E_if (t := 71) (b := false) rfl rfl (by decide) ?_
    refine E_aload_n rfl rfl ?_
    refine E_iload rfl rfl ?_
    refine E_callV (v := some (.int (-1))) (As := [.ref 0, .int 1]) (r0 := []) (cs2 := (w0.set 48 (.inl [0, 1, 0, 0, 0, 0, 0, 0]))) rfl rfl rfl (Nat.le_of_ble_eq_true rfl) rfl rfl c1_X5_refuse (by decide) (by simp only [List.length_set]) ?_
    refine E_bipush (x := 10) rfl (by decide) ?_
    refine E_isub (z := (-11)) rfl (by decide) ?_
    exact E_iret rfl rfl, by
    refine Ef.in (md := mX6_costs) (L := [some (.ref 65), some (.int a1), some (.int a2), some (.int a3), some (.int 1), none, none, none, none, none, none, none]) rfl (Nat.le_of_ble_eq_true rfl) rfl ?_
    refine E_aload_n rfl rfl ?_
    refine E_iload_n rfl rfl ?_
    refine E_iconst (x := 0) rfl (by decide) ?_
    refine E_bipush (x := 7) rfl (by decide) ?_
    have e5 : Ev ab_Z0 1 134 [.ref 65, .int a3, .int 0, .int 7] (w0.set 48 (.inl [0, 1, 0, 0, 0, 0, 0, 0])) (some (.int 1), (w0.set 48 (.inl [0, 1, 0, 0, 0, 0, 0, 0]))) := by
      refine Ef.in (md := mX6_isFrom) (L := [some (.ref 65), some (.int a3), some (.int 0), some (.int 7)]) rfl (Nat.le_of_ble_eq_true rfl) rfl ?_
      refine E_iload_n rfl rfl ?_
      refine E_iload_n rfl rfl ?_
      refine E_ic (t := 14) (b := false) rfl rfl ((cn_lt (rfl : (a3).toInt = (a3).toInt) (by decide : (0 : Int32).toInt = 0)).trans (decide_eq_false (by omega))) ?_
      refine E_iload_n rfl rfl ?_
      refine E_iload_n rfl rfl ?_
      refine E_ic (t := 14) (b := false) rfl rfl ((cn_gt (rfl : (a3).toInt = (a3).toInt) (by decide : (7 : Int32).toInt = 7)).trans (decide_eq_false (by omega))) ?_
      refine E_iconst (x := 1) rfl (by decide) ?_
      refine E_goto (t := 15) rfl rfl ?_
      exact E_iret rfl rfl
    refine E_callV (v := some (.int 1)) (As := [.ref 65, .int a3, .int 0, .int 7]) (r0 := []) (cs2 := (w0.set 48 (.inl [0, 1, 0, 0, 0, 0, 0, 0]))) rfl rfl rfl (Nat.le_of_ble_eq_true rfl) rfl rfl e5 (by decide) rfl ?_
    refine E_if (t := 15) (b := true) rfl rfl (by decide) ?_
    refine E_aload_n rfl rfl ?_
    refine E_iload_n rfl rfl ?_
    refine E_iload_n rfl rfl ?_
    refine E_bipush (x := 40) rfl (by decide) ?_
    refine E_iload rfl rfl ?_
    refine E_if (t := 31) (b := false) rfl rfl (by decide) ?_
    refine E_iload rfl rfl ?_
    refine E_iconst (x := 1) rfl (by decide) ?_
    refine E_ic (t := 35) (b := false) rfl rfl (by decide) ?_
    refine E_iconst (x := 1) rfl (by decide) ?_
    refine E_goto (t := 36) rfl rfl ?_
    have e29 : Ev ab_Z0 3 186 [.ref 65, .int a1, .int a2, .int 40, .int 1] (w0.set 48 (.inl [0, 1, 0, 0, 0, 0, 0, 0])) (some (.int (-1)), (w0.set 48 (.inl [0, 1, 0, 0, 0, 0, 0, 0]))) := by
      refine Ef.in (md := mX6_barsOf) (L := [some (.ref 65), some (.int a1), some (.int a2), some (.int 40), some (.int 1), none]) rfl (Nat.le_of_ble_eq_true rfl) rfl ?_
      refine E_aload_n rfl rfl ?_
      refine E_iload_n rfl rfl ?_
      have e3 : Ev ab_Z0 2 142 [.ref 65, .int a1] (w0.set 48 (.inl [0, 1, 0, 0, 0, 0, 0, 0])) (some (.int (-1)), (w0.set 48 (.inl [0, 1, 0, 0, 0, 0, 0, 0]))) := by
        refine Ef.in (md := mX6_wanted) (L := [some (.ref 65), some (.int a1)]) rfl (Nat.le_of_ble_eq_true rfl) rfl ?_
        refine E_aload_n rfl rfl ?_
        refine E_iload_n rfl rfl ?_
        have e3 : Ev ab_Z0 1 131 [.ref 65, .int a1] (w0.set 48 (.inl [0, 1, 0, 0, 0, 0, 0, 0])) (some (.int 0), (w0.set 48 (.inl [0, 1, 0, 0, 0, 0, 0, 0]))) := by
          refine Ef.in (md := mX6_isShelf) (L := [some (.ref 65), some (.int a1)]) rfl (Nat.le_of_ble_eq_true rfl) rfl ?_
          refine E_iload_n rfl rfl ?_
          refine E_if (t := 14) (b := true) rfl rfl ((cn_lt (rfl : (a1).toInt = (a1).toInt) (by decide : (0 : Int32).toInt = 0)).trans (decide_eq_true (by omega))) ?_
          refine E_iconst (x := 0) rfl (by decide) ?_
          exact E_iret rfl rfl
        refine E_callV (v := some (.int 0)) (As := [.ref 65, .int a1]) (r0 := []) (cs2 := (w0.set 48 (.inl [0, 1, 0, 0, 0, 0, 0, 0]))) rfl rfl rfl (Nat.le_of_ble_eq_true rfl) rfl rfl e3 (by decide) rfl ?_
        refine E_if (t := 12) (b := false) rfl rfl (by decide) ?_
        refine E_iconst (x := (-1)) rfl (by decide) ?_
        refine E_goto (t := 42) rfl rfl ?_
        exact E_iret rfl rfl
      refine E_callV (v := some (.int (-1))) (As := [.ref 65, .int a1]) (r0 := []) (cs2 := (w0.set 48 (.inl [0, 1, 0, 0, 0, 0, 0, 0]))) rfl rfl rfl (Nat.le_of_ble_eq_true rfl) rfl rfl e3 (by decide) rfl ?_
      refine E_istore (L2 := [some (.ref 65), some (.int a1), some (.int a2), some (.int 40), some (.int 1), some (.int (-1))]) rfl rfl ?_
      refine E_iload rfl rfl ?_
      refine E_if (t := 17) (b := false) rfl rfl (by decide) ?_
      refine E_iload rfl rfl ?_
      refine E_goto (t := 59) rfl rfl ?_
      exact E_iret rfl rfl
    refine E_callV (v := some (.int (-1))) (As := [.ref 65, .int a1, .int a2, .int 40, .int 1]) (r0 := []) (cs2 := (w0.set 48 (.inl [0, 1, 0, 0, 0, 0, 0, 0]))) rfl rfl rfl (Nat.le_of_ble_eq_true rfl) rfl rfl e29 (by decide) rfl ?_
    refine E_istore (L2 := [some (.ref 65), some (.int a1), some (.int a2), some (.int a3), some (.int 1), some (.int (-1)), none, none, none, none, none, none]) rfl rfl ?_
    refine E_iconst (x := 0) rfl (by decide) ?_
    refine E_istore (L2 := [some (.ref 65), some (.int a1), some (.int a2), some (.int a3), some (.int 1), some (.int (-1)), some (.int 0), none, none, none, none, none]) rfl rfl ?_
    refine E_iload rfl rfl ?_
    refine E_iload_n rfl rfl ?_
    refine E_ic (t := 80) (b := true) rfl rfl ((cn_ge (by decide : (0 : Int32).toInt = 0) (rfl : (a2).toInt = (a2).toInt)).trans (decide_eq_true (by omega))) ?_
    refine E_iload rfl rfl ?_
    refine E_if (t := 92) (b := false) rfl rfl (by decide) ?_
    refine E_aload_n rfl rfl ?_
    refine E_iload rfl rfl ?_
    refine E_callV (v := some (.int (-11))) (As := [.ref 65, .int (-1)]) (r0 := []) (cs2 := ((w0.set 48 (.inl [0, 1, 0, 0, 0, 0, 0, 0])).set 66 (.inl [0, 1, 0, 0, 0, 0, 0, 0]))) rfl rfl rfl (Nat.le_of_ble_eq_true rfl) rfl rfl c247_X6_noTen (by decide) (by simp only [List.length_set]) ?_
    exact E_iret rfl rfl, (by simp only [List.length_set]; rfl), (by simp only [List.length_set]; rfl), ((ab_szs rfl).trans ((ab_szs rfl).trans rfl)), fun _ => rfl⟩
theorem f_costs_44 (a1 a2 a3 : Int32) (ha1h : a1.toInt ≤ -1) (ha2l : (1 : Int) ≤ a2.toInt) (ha3l : (0 : Int) ≤ a3.toInt) (ha3h : a3.toInt ≤ 7) : p1_P 6 100 4 188 [.ref 0, .int a1, .int a2, .int a3, .int 1] [.ref 65, .int a1, .int a2, .int a3, .int 1] :=
  ⟨(-11), (w0.set 48 (.inl [0, 1, 0, 0, 0, 0, 0, 0])), ((w0.set 48 (.inl [0, 1, 0, 0, 0, 0, 0, 0])).set 66 (.inl [0, 1, 0, 0, 0, 0, 0, 0])), by
    refine Ef.in (md := mX5_costs) (L := [some (.ref 0), some (.int a1), some (.int a2), some (.int a3), some (.int 1), none, none, none, none]) rfl (Nat.le_of_ble_eq_true rfl) rfl ?_
    refine E_iload_n rfl rfl ?_
    have e2 : Ev ab_Z0 1 47 [.int a3] w0 (some (.int 1), w0) := by
      refine Ef.in (md := mX4_isWish) (L := [some (.int a3)]) rfl (Nat.le_of_ble_eq_true rfl) rfl ?_
      refine E_iload_n rfl rfl ?_
      refine E_if (t := 14) (b := false) rfl rfl ((cn_lt (rfl : (a3).toInt = (a3).toInt) (by decide : (0 : Int32).toInt = 0)).trans (decide_eq_false (by omega))) ?_
      refine E_iload_n rfl rfl ?_
      refine E_bipush (x := 8) rfl (by decide) ?_
      refine E_ic (t := 14) (b := false) rfl rfl ((cn_ge (rfl : (a3).toInt = (a3).toInt) (by decide : (8 : Int32).toInt = 8)).trans (decide_eq_false (by omega))) ?_
      refine E_iconst (x := 1) rfl (by decide) ?_
      refine E_goto (t := 15) rfl rfl ?_
      exact E_iret rfl rfl
    refine E_callS (v := some (.int 1)) (As := [.int a3]) (r0 := []) (cs2 := w0) rfl rfl rfl (Nat.le_of_ble_eq_true rfl) rfl e2 (by decide) rfl ?_
    refine E_if (t := 31) (b := false) rfl rfl (by decide) ?_
    refine E_aload_n rfl rfl ?_
    refine E_iload_n rfl rfl ?_
    refine E_iload_n rfl rfl ?_
    refine E_bipush (x := 40) rfl (by decide) ?_
    refine E_iload rfl rfl ?_
    refine E_callS (v := some (.int 1)) (As := [.int 1]) (r0 := [.int 40, .int a2, .int a1, .ref 0]) (cs2 := w0) rfl rfl rfl (Nat.le_of_ble_eq_true rfl) rfl c239_X5_isOneOfTwo (by decide) rfl ?_
    refine E_if (t := 24) (b := true) rfl rfl (by decide) ?_
    refine E_iconst (x := 0) rfl (by decide) ?_
    have e22 : Ev ab_Z0 3 120 [.ref 0, .int a1, .int a2, .int 40, .int 0] w0 (some (.int 1), w0) := by
      refine Ef.in (md := mX5_whyNoTwos) (L := [some (.ref 0), some (.int a1), some (.int a2), some (.int 40), some (.int 0), none]) rfl (Nat.le_of_ble_eq_true rfl) rfl ?_
      refine E_aload_n rfl rfl ?_
      refine E_iload_n rfl rfl ?_
      have e3 : Ev ab_Z0 2 119 [.ref 0, .int a1] w0 (some (.int 1), w0) := by
        refine Ef.in (md := mX5_whyNoRow) (L := [some (.ref 0), some (.int a1)]) rfl (Nat.le_of_ble_eq_true rfl) rfl ?_
        refine E_iload_n rfl rfl ?_
        have e2 : Ev ab_Z0 1 117 [.int a1] w0 (some (.int 0), w0) := by
          refine Ef.in (md := mX5_isShelf) (L := [some (.int a1)]) rfl (Nat.le_of_ble_eq_true rfl) rfl ?_
          refine E_iload_n rfl rfl ?_
          refine E_if (t := 14) (b := true) rfl rfl ((cn_lt (rfl : (a1).toInt = (a1).toInt) (by decide : (0 : Int32).toInt = 0)).trans (decide_eq_true (by omega))) ?_
          refine E_iconst (x := 0) rfl (by decide) ?_
          exact E_iret rfl rfl
        refine E_callS (v := some (.int 0)) (As := [.int a1]) (r0 := []) (cs2 := w0) rfl rfl rfl (Nat.le_of_ble_eq_true rfl) rfl e2 (by decide) rfl ?_
        refine E_if (t := 9) (b := false) rfl rfl (by decide) ?_
        refine E_iconst (x := 1) rfl (by decide) ?_
        exact E_iret rfl rfl
      refine E_callV (v := some (.int 1)) (As := [.ref 0, .int a1]) (r0 := []) (cs2 := w0) rfl rfl rfl (Nat.le_of_ble_eq_true rfl) rfl rfl e3 (by decide) rfl ?_
      refine E_istore (L2 := [some (.ref 0), some (.int a1), some (.int a2), some (.int 40), some (.int 0), some (.int 1)]) rfl rfl ?_
      refine E_iload rfl rfl ?_
      refine E_if (t := 15) (b := false) rfl rfl (by decide) ?_
      refine E_iload rfl rfl ?_
      exact E_iret rfl rfl
    refine E_callV (v := some (.int 1)) (As := [.ref 0, .int a1, .int a2, .int 40, .int 0]) (r0 := []) (cs2 := w0) rfl rfl rfl (Nat.le_of_ble_eq_true rfl) rfl rfl e22 (by decide) rfl ?_
    refine E_goto (t := 32) rfl rfl ?_
    refine E_istore (L2 := [some (.ref 0), some (.int a1), some (.int a2), some (.int a3), some (.int 1), some (.int 1), none, none, none]) rfl rfl ?_
    refine E_iload rfl rfl ?_
    refine E_if (t := 56) (b := true) rfl rfl (by decide) ?_
    refine E_iload rfl rfl ?_
    refine E_if (t := 71) (b := false) rfl rfl (by decide) ?_
    refine E_aload_n rfl rfl ?_
    refine E_iload rfl rfl ?_
    refine E_callV (v := some (.int (-1))) (As := [.ref 0, .int 1]) (r0 := []) (cs2 := (w0.set 48 (.inl [0, 1, 0, 0, 0, 0, 0, 0]))) rfl rfl rfl (Nat.le_of_ble_eq_true rfl) rfl rfl c1_X5_refuse (by decide) (by simp only [List.length_set]) ?_
    refine E_bipush (x := 10) rfl (by decide) ?_
    refine E_isub (z := (-11)) rfl (by decide) ?_
    exact E_iret rfl rfl, by
    refine Ef.in (md := mX6_costs) (L := [some (.ref 65), some (.int a1), some (.int a2), some (.int a3), some (.int 1), none, none, none, none, none, none, none]) rfl (Nat.le_of_ble_eq_true rfl) rfl ?_
    refine E_aload_n rfl rfl ?_
    refine E_iload_n rfl rfl ?_
    refine E_iconst (x := 0) rfl (by decide) ?_
    refine E_bipush (x := 7) rfl (by decide) ?_
    have e5 : Ev ab_Z0 1 134 [.ref 65, .int a3, .int 0, .int 7] (w0.set 48 (.inl [0, 1, 0, 0, 0, 0, 0, 0])) (some (.int 1), (w0.set 48 (.inl [0, 1, 0, 0, 0, 0, 0, 0]))) := by
      refine Ef.in (md := mX6_isFrom) (L := [some (.ref 65), some (.int a3), some (.int 0), some (.int 7)]) rfl (Nat.le_of_ble_eq_true rfl) rfl ?_
      refine E_iload_n rfl rfl ?_
      refine E_iload_n rfl rfl ?_
      refine E_ic (t := 14) (b := false) rfl rfl ((cn_lt (rfl : (a3).toInt = (a3).toInt) (by decide : (0 : Int32).toInt = 0)).trans (decide_eq_false (by omega))) ?_
      refine E_iload_n rfl rfl ?_
      refine E_iload_n rfl rfl ?_
      refine E_ic (t := 14) (b := false) rfl rfl ((cn_gt (rfl : (a3).toInt = (a3).toInt) (by decide : (7 : Int32).toInt = 7)).trans (decide_eq_false (by omega))) ?_
      refine E_iconst (x := 1) rfl (by decide) ?_
      refine E_goto (t := 15) rfl rfl ?_
      exact E_iret rfl rfl
    refine E_callV (v := some (.int 1)) (As := [.ref 65, .int a3, .int 0, .int 7]) (r0 := []) (cs2 := (w0.set 48 (.inl [0, 1, 0, 0, 0, 0, 0, 0]))) rfl rfl rfl (Nat.le_of_ble_eq_true rfl) rfl rfl e5 (by decide) rfl ?_
    refine E_if (t := 15) (b := true) rfl rfl (by decide) ?_
    refine E_aload_n rfl rfl ?_
    refine E_iload_n rfl rfl ?_
    refine E_iload_n rfl rfl ?_
    refine E_bipush (x := 40) rfl (by decide) ?_
    refine E_iload rfl rfl ?_
    refine E_if (t := 31) (b := false) rfl rfl (by decide) ?_
    refine E_iload rfl rfl ?_
    refine E_iconst (x := 1) rfl (by decide) ?_
    refine E_ic (t := 35) (b := false) rfl rfl (by decide) ?_
    refine E_iconst (x := 1) rfl (by decide) ?_
    refine E_goto (t := 36) rfl rfl ?_
    have e29 : Ev ab_Z0 3 186 [.ref 65, .int a1, .int a2, .int 40, .int 1] (w0.set 48 (.inl [0, 1, 0, 0, 0, 0, 0, 0])) (some (.int (-1)), (w0.set 48 (.inl [0, 1, 0, 0, 0, 0, 0, 0]))) := by
      refine Ef.in (md := mX6_barsOf) (L := [some (.ref 65), some (.int a1), some (.int a2), some (.int 40), some (.int 1), none]) rfl (Nat.le_of_ble_eq_true rfl) rfl ?_
      refine E_aload_n rfl rfl ?_
      refine E_iload_n rfl rfl ?_
      have e3 : Ev ab_Z0 2 142 [.ref 65, .int a1] (w0.set 48 (.inl [0, 1, 0, 0, 0, 0, 0, 0])) (some (.int (-1)), (w0.set 48 (.inl [0, 1, 0, 0, 0, 0, 0, 0]))) := by
        refine Ef.in (md := mX6_wanted) (L := [some (.ref 65), some (.int a1)]) rfl (Nat.le_of_ble_eq_true rfl) rfl ?_
        refine E_aload_n rfl rfl ?_
        refine E_iload_n rfl rfl ?_
        have e3 : Ev ab_Z0 1 131 [.ref 65, .int a1] (w0.set 48 (.inl [0, 1, 0, 0, 0, 0, 0, 0])) (some (.int 0), (w0.set 48 (.inl [0, 1, 0, 0, 0, 0, 0, 0]))) := by
          refine Ef.in (md := mX6_isShelf) (L := [some (.ref 65), some (.int a1)]) rfl (Nat.le_of_ble_eq_true rfl) rfl ?_
          refine E_iload_n rfl rfl ?_
          refine E_if (t := 14) (b := true) rfl rfl ((cn_lt (rfl : (a1).toInt = (a1).toInt) (by decide : (0 : Int32).toInt = 0)).trans (decide_eq_true (by omega))) ?_
          refine E_iconst (x := 0) rfl (by decide) ?_
          exact E_iret rfl rfl
        refine E_callV (v := some (.int 0)) (As := [.ref 65, .int a1]) (r0 := []) (cs2 := (w0.set 48 (.inl [0, 1, 0, 0, 0, 0, 0, 0]))) rfl rfl rfl (Nat.le_of_ble_eq_true rfl) rfl rfl e3 (by decide) rfl ?_
        refine E_if (t := 12) (b := false) rfl rfl (by decide) ?_
        refine E_iconst (x := (-1)) rfl (by decide) ?_
        refine E_goto (t := 42) rfl rfl ?_
        exact E_iret rfl rfl
      refine E_callV (v := some (.int (-1))) (As := [.ref 65, .int a1]) (r0 := []) (cs2 := (w0.set 48 (.inl [0, 1, 0, 0, 0, 0, 0, 0]))) rfl rfl rfl (Nat.le_of_ble_eq_true rfl) rfl rfl e3 (by decide) rfl ?_
      refine E_istore (L2 := [some (.ref 65), some (.int a1), some (.int a2), some (.int 40), some (.int 1), some (.int (-1))]) rfl rfl ?_
      refine E_iload rfl rfl ?_
      refine E_if (t := 17) (b := false) rfl rfl (by decide) ?_
      refine E_iload rfl rfl ?_
      refine E_goto (t := 59) rfl rfl ?_
      exact E_iret rfl rfl
    refine E_callV (v := some (.int (-1))) (As := [.ref 65, .int a1, .int a2, .int 40, .int 1]) (r0 := []) (cs2 := (w0.set 48 (.inl [0, 1, 0, 0, 0, 0, 0, 0]))) rfl rfl rfl (Nat.le_of_ble_eq_true rfl) rfl rfl e29 (by decide) rfl ?_
    refine E_istore (L2 := [some (.ref 65), some (.int a1), some (.int a2), some (.int a3), some (.int 1), some (.int (-1)), none, none, none, none, none, none]) rfl rfl ?_
    refine E_iconst (x := 0) rfl (by decide) ?_
    refine E_istore (L2 := [some (.ref 65), some (.int a1), some (.int a2), some (.int a3), some (.int 1), some (.int (-1)), some (.int 0), none, none, none, none, none]) rfl rfl ?_
    refine E_iload rfl rfl ?_
    refine E_iload_n rfl rfl ?_
    refine E_ic (t := 80) (b := false) rfl rfl ((cn_ge (by decide : (0 : Int32).toInt = 0) (rfl : (a2).toInt = (a2).toInt)).trans (decide_eq_false (by omega))) ?_
    refine E_iload rfl rfl ?_
    refine E_if (t := 80) (b := true) rfl rfl (by decide) ?_
    refine E_iload rfl rfl ?_
    refine E_if (t := 92) (b := false) rfl rfl (by decide) ?_
    refine E_aload_n rfl rfl ?_
    refine E_iload rfl rfl ?_
    refine E_callV (v := some (.int (-11))) (As := [.ref 65, .int (-1)]) (r0 := []) (cs2 := ((w0.set 48 (.inl [0, 1, 0, 0, 0, 0, 0, 0])).set 66 (.inl [0, 1, 0, 0, 0, 0, 0, 0]))) rfl rfl rfl (Nat.le_of_ble_eq_true rfl) rfl rfl c247_X6_noTen (by decide) (by simp only [List.length_set]) ?_
    exact E_iret rfl rfl, (by simp only [List.length_set]; rfl), (by simp only [List.length_set]; rfl), ((ab_szs rfl).trans ((ab_szs rfl).trans rfl)), fun _ => rfl⟩
theorem f_costs_45 (a2 a3 : Int32) (ha2h : a2.toInt ≤ 0) (ha3l : (0 : Int) ≤ a3.toInt) (ha3h : a3.toInt ≤ 7) : p1_P 6 100 4 188 [.ref 0, .int 0, .int a2, .int a3, .int 1] [.ref 65, .int 0, .int a2, .int a3, .int 1] :=
  ⟨(-13), (w0.set 48 (.inl [0, 0, 0, 1, 0, 0, 0, 0])), ((w0.set 48 (.inl [0, 0, 0, 1, 0, 0, 0, 0])).set 66 (.inl [0, 0, 0, 1, 0, 0, 0, 0])), by
    refine Ef.in (md := mX5_costs) (L := [some (.ref 0), some (.int 0), some (.int a2), some (.int a3), some (.int 1), none, none, none, none]) rfl (Nat.le_of_ble_eq_true rfl) rfl ?_
    refine E_iload_n rfl rfl ?_
    have e2 : Ev ab_Z0 1 47 [.int a3] w0 (some (.int 1), w0) := by
      refine Ef.in (md := mX4_isWish) (L := [some (.int a3)]) rfl (Nat.le_of_ble_eq_true rfl) rfl ?_
      refine E_iload_n rfl rfl ?_
      refine E_if (t := 14) (b := false) rfl rfl ((cn_lt (rfl : (a3).toInt = (a3).toInt) (by decide : (0 : Int32).toInt = 0)).trans (decide_eq_false (by omega))) ?_
      refine E_iload_n rfl rfl ?_
      refine E_bipush (x := 8) rfl (by decide) ?_
      refine E_ic (t := 14) (b := false) rfl rfl ((cn_ge (rfl : (a3).toInt = (a3).toInt) (by decide : (8 : Int32).toInt = 8)).trans (decide_eq_false (by omega))) ?_
      refine E_iconst (x := 1) rfl (by decide) ?_
      refine E_goto (t := 15) rfl rfl ?_
      exact E_iret rfl rfl
    refine E_callS (v := some (.int 1)) (As := [.int a3]) (r0 := []) (cs2 := w0) rfl rfl rfl (Nat.le_of_ble_eq_true rfl) rfl e2 (by decide) rfl ?_
    refine E_if (t := 31) (b := false) rfl rfl (by decide) ?_
    refine E_aload_n rfl rfl ?_
    refine E_iload_n rfl rfl ?_
    refine E_iload_n rfl rfl ?_
    refine E_bipush (x := 40) rfl (by decide) ?_
    refine E_iload rfl rfl ?_
    refine E_callS (v := some (.int 1)) (As := [.int 1]) (r0 := [.int 40, .int a2, .int 0, .ref 0]) (cs2 := w0) rfl rfl rfl (Nat.le_of_ble_eq_true rfl) rfl c239_X5_isOneOfTwo (by decide) rfl ?_
    refine E_if (t := 24) (b := true) rfl rfl (by decide) ?_
    refine E_iconst (x := 0) rfl (by decide) ?_
    have e22 : Ev ab_Z0 3 120 [.ref 0, .int 0, .int a2, .int 40, .int 0] w0 (some (.int 3), w0) := by
      refine Ef.in (md := mX5_whyNoTwos) (L := [some (.ref 0), some (.int 0), some (.int a2), some (.int 40), some (.int 0), none]) rfl (Nat.le_of_ble_eq_true rfl) rfl ?_
      refine E_aload_n rfl rfl ?_
      refine E_iload_n rfl rfl ?_
      refine E_callV (v := some (.int 3)) (As := [.ref 0, .int 0]) (r0 := []) (cs2 := w0) rfl rfl rfl (Nat.le_of_ble_eq_true rfl) rfl rfl c29_X5_whyNoRow (by decide) rfl ?_
      refine E_istore (L2 := [some (.ref 0), some (.int 0), some (.int a2), some (.int 40), some (.int 0), some (.int 3)]) rfl rfl ?_
      refine E_iload rfl rfl ?_
      refine E_if (t := 15) (b := false) rfl rfl (by decide) ?_
      refine E_iload rfl rfl ?_
      exact E_iret rfl rfl
    refine E_callV (v := some (.int 3)) (As := [.ref 0, .int 0, .int a2, .int 40, .int 0]) (r0 := []) (cs2 := w0) rfl rfl rfl (Nat.le_of_ble_eq_true rfl) rfl rfl e22 (by decide) rfl ?_
    refine E_goto (t := 32) rfl rfl ?_
    refine E_istore (L2 := [some (.ref 0), some (.int 0), some (.int a2), some (.int a3), some (.int 1), some (.int 3), none, none, none]) rfl rfl ?_
    refine E_iload rfl rfl ?_
    refine E_if (t := 56) (b := true) rfl rfl (by decide) ?_
    refine E_iload rfl rfl ?_
    refine E_if (t := 71) (b := false) rfl rfl (by decide) ?_
    refine E_aload_n rfl rfl ?_
    refine E_iload rfl rfl ?_
    refine E_callV (v := some (.int (-3))) (As := [.ref 0, .int 3]) (r0 := []) (cs2 := (w0.set 48 (.inl [0, 0, 0, 1, 0, 0, 0, 0]))) rfl rfl rfl (Nat.le_of_ble_eq_true rfl) rfl rfl c32_X5_refuse (by decide) (by simp only [List.length_set]) ?_
    refine E_bipush (x := 10) rfl (by decide) ?_
    refine E_isub (z := (-13)) rfl (by decide) ?_
    exact E_iret rfl rfl, by
    refine Ef.in (md := mX6_costs) (L := [some (.ref 65), some (.int 0), some (.int a2), some (.int a3), some (.int 1), none, none, none, none, none, none, none]) rfl (Nat.le_of_ble_eq_true rfl) rfl ?_
    refine E_aload_n rfl rfl ?_
    refine E_iload_n rfl rfl ?_
    refine E_iconst (x := 0) rfl (by decide) ?_
    refine E_bipush (x := 7) rfl (by decide) ?_
    have e5 : Ev ab_Z0 1 134 [.ref 65, .int a3, .int 0, .int 7] (w0.set 48 (.inl [0, 0, 0, 1, 0, 0, 0, 0])) (some (.int 1), (w0.set 48 (.inl [0, 0, 0, 1, 0, 0, 0, 0]))) := by
      refine Ef.in (md := mX6_isFrom) (L := [some (.ref 65), some (.int a3), some (.int 0), some (.int 7)]) rfl (Nat.le_of_ble_eq_true rfl) rfl ?_
      refine E_iload_n rfl rfl ?_
      refine E_iload_n rfl rfl ?_
      refine E_ic (t := 14) (b := false) rfl rfl ((cn_lt (rfl : (a3).toInt = (a3).toInt) (by decide : (0 : Int32).toInt = 0)).trans (decide_eq_false (by omega))) ?_
      refine E_iload_n rfl rfl ?_
      refine E_iload_n rfl rfl ?_
      refine E_ic (t := 14) (b := false) rfl rfl ((cn_gt (rfl : (a3).toInt = (a3).toInt) (by decide : (7 : Int32).toInt = 7)).trans (decide_eq_false (by omega))) ?_
      refine E_iconst (x := 1) rfl (by decide) ?_
      refine E_goto (t := 15) rfl rfl ?_
      exact E_iret rfl rfl
    refine E_callV (v := some (.int 1)) (As := [.ref 65, .int a3, .int 0, .int 7]) (r0 := []) (cs2 := (w0.set 48 (.inl [0, 0, 0, 1, 0, 0, 0, 0]))) rfl rfl rfl (Nat.le_of_ble_eq_true rfl) rfl rfl e5 (by decide) rfl ?_
    refine E_if (t := 15) (b := true) rfl rfl (by decide) ?_
    refine E_aload_n rfl rfl ?_
    refine E_iload_n rfl rfl ?_
    refine E_iload_n rfl rfl ?_
    refine E_bipush (x := 40) rfl (by decide) ?_
    refine E_iload rfl rfl ?_
    refine E_if (t := 31) (b := false) rfl rfl (by decide) ?_
    refine E_iload rfl rfl ?_
    refine E_iconst (x := 1) rfl (by decide) ?_
    refine E_ic (t := 35) (b := false) rfl rfl (by decide) ?_
    refine E_iconst (x := 1) rfl (by decide) ?_
    refine E_goto (t := 36) rfl rfl ?_
    have e29 : Ev ab_Z0 3 186 [.ref 65, .int 0, .int a2, .int 40, .int 1] (w0.set 48 (.inl [0, 0, 0, 1, 0, 0, 0, 0])) (some (.int (-3)), (w0.set 48 (.inl [0, 0, 0, 1, 0, 0, 0, 0]))) := by
      refine Ef.in (md := mX6_barsOf) (L := [some (.ref 65), some (.int 0), some (.int a2), some (.int 40), some (.int 1), none]) rfl (Nat.le_of_ble_eq_true rfl) rfl ?_
      refine E_aload_n rfl rfl ?_
      refine E_iload_n rfl rfl ?_
      refine E_callV (v := some (.int (-3))) (As := [.ref 65, .int 0]) (r0 := []) (cs2 := (w0.set 48 (.inl [0, 0, 0, 1, 0, 0, 0, 0]))) rfl rfl rfl (Nat.le_of_ble_eq_true rfl) rfl rfl c205_X6_wanted (by decide) rfl ?_
      refine E_istore (L2 := [some (.ref 65), some (.int 0), some (.int a2), some (.int 40), some (.int 1), some (.int (-3))]) rfl rfl ?_
      refine E_iload rfl rfl ?_
      refine E_if (t := 17) (b := false) rfl rfl (by decide) ?_
      refine E_iload rfl rfl ?_
      refine E_goto (t := 59) rfl rfl ?_
      exact E_iret rfl rfl
    refine E_callV (v := some (.int (-3))) (As := [.ref 65, .int 0, .int a2, .int 40, .int 1]) (r0 := []) (cs2 := (w0.set 48 (.inl [0, 0, 0, 1, 0, 0, 0, 0]))) rfl rfl rfl (Nat.le_of_ble_eq_true rfl) rfl rfl e29 (by decide) rfl ?_
    refine E_istore (L2 := [some (.ref 65), some (.int 0), some (.int a2), some (.int a3), some (.int 1), some (.int (-3)), none, none, none, none, none, none]) rfl rfl ?_
    refine E_iconst (x := 0) rfl (by decide) ?_
    refine E_istore (L2 := [some (.ref 65), some (.int 0), some (.int a2), some (.int a3), some (.int 1), some (.int (-3)), some (.int 0), none, none, none, none, none]) rfl rfl ?_
    refine E_iload rfl rfl ?_
    refine E_iload_n rfl rfl ?_
    refine E_ic (t := 80) (b := true) rfl rfl ((cn_ge (by decide : (0 : Int32).toInt = 0) (rfl : (a2).toInt = (a2).toInt)).trans (decide_eq_true (by omega))) ?_
    refine E_iload rfl rfl ?_
    refine E_if (t := 92) (b := false) rfl rfl (by decide) ?_
    refine E_aload_n rfl rfl ?_
    refine E_iload rfl rfl ?_
    refine E_callV (v := some (.int (-13))) (As := [.ref 65, .int (-3)]) (r0 := []) (cs2 := ((w0.set 48 (.inl [0, 0, 0, 1, 0, 0, 0, 0])).set 66 (.inl [0, 0, 0, 1, 0, 0, 0, 0]))) rfl rfl rfl (Nat.le_of_ble_eq_true rfl) rfl rfl c258_X6_noTen (by decide) (by simp only [List.length_set]) ?_
    exact E_iret rfl rfl, (by simp only [List.length_set]; rfl), (by simp only [List.length_set]; rfl), ((ab_szs rfl).trans ((ab_szs rfl).trans rfl)), fun _ => rfl⟩
theorem f_costs_46 (a2 a3 : Int32) (ha2l : (1 : Int) ≤ a2.toInt) (ha3l : (0 : Int) ≤ a3.toInt) (ha3h : a3.toInt ≤ 7) : p1_P 6 100 4 188 [.ref 0, .int 0, .int a2, .int a3, .int 1] [.ref 65, .int 0, .int a2, .int a3, .int 1] :=
  ⟨(-13), (w0.set 48 (.inl [0, 0, 0, 1, 0, 0, 0, 0])), ((w0.set 48 (.inl [0, 0, 0, 1, 0, 0, 0, 0])).set 66 (.inl [0, 0, 0, 1, 0, 0, 0, 0])), by
    refine Ef.in (md := mX5_costs) (L := [some (.ref 0), some (.int 0), some (.int a2), some (.int a3), some (.int 1), none, none, none, none]) rfl (Nat.le_of_ble_eq_true rfl) rfl ?_
    refine E_iload_n rfl rfl ?_
    have e2 : Ev ab_Z0 1 47 [.int a3] w0 (some (.int 1), w0) := by
      refine Ef.in (md := mX4_isWish) (L := [some (.int a3)]) rfl (Nat.le_of_ble_eq_true rfl) rfl ?_
      refine E_iload_n rfl rfl ?_
      refine E_if (t := 14) (b := false) rfl rfl ((cn_lt (rfl : (a3).toInt = (a3).toInt) (by decide : (0 : Int32).toInt = 0)).trans (decide_eq_false (by omega))) ?_
      refine E_iload_n rfl rfl ?_
      refine E_bipush (x := 8) rfl (by decide) ?_
      refine E_ic (t := 14) (b := false) rfl rfl ((cn_ge (rfl : (a3).toInt = (a3).toInt) (by decide : (8 : Int32).toInt = 8)).trans (decide_eq_false (by omega))) ?_
      refine E_iconst (x := 1) rfl (by decide) ?_
      refine E_goto (t := 15) rfl rfl ?_
      exact E_iret rfl rfl
    refine E_callS (v := some (.int 1)) (As := [.int a3]) (r0 := []) (cs2 := w0) rfl rfl rfl (Nat.le_of_ble_eq_true rfl) rfl e2 (by decide) rfl ?_
    refine E_if (t := 31) (b := false) rfl rfl (by decide) ?_
    refine E_aload_n rfl rfl ?_
    refine E_iload_n rfl rfl ?_
    refine E_iload_n rfl rfl ?_
    refine E_bipush (x := 40) rfl (by decide) ?_
    refine E_iload rfl rfl ?_
    refine E_callS (v := some (.int 1)) (As := [.int 1]) (r0 := [.int 40, .int a2, .int 0, .ref 0]) (cs2 := w0) rfl rfl rfl (Nat.le_of_ble_eq_true rfl) rfl c239_X5_isOneOfTwo (by decide) rfl ?_
    refine E_if (t := 24) (b := true) rfl rfl (by decide) ?_
    refine E_iconst (x := 0) rfl (by decide) ?_
    have e22 : Ev ab_Z0 3 120 [.ref 0, .int 0, .int a2, .int 40, .int 0] w0 (some (.int 3), w0) := by
      refine Ef.in (md := mX5_whyNoTwos) (L := [some (.ref 0), some (.int 0), some (.int a2), some (.int 40), some (.int 0), none]) rfl (Nat.le_of_ble_eq_true rfl) rfl ?_
      refine E_aload_n rfl rfl ?_
      refine E_iload_n rfl rfl ?_
      refine E_callV (v := some (.int 3)) (As := [.ref 0, .int 0]) (r0 := []) (cs2 := w0) rfl rfl rfl (Nat.le_of_ble_eq_true rfl) rfl rfl c29_X5_whyNoRow (by decide) rfl ?_
      refine E_istore (L2 := [some (.ref 0), some (.int 0), some (.int a2), some (.int 40), some (.int 0), some (.int 3)]) rfl rfl ?_
      refine E_iload rfl rfl ?_
      refine E_if (t := 15) (b := false) rfl rfl (by decide) ?_
      refine E_iload rfl rfl ?_
      exact E_iret rfl rfl
    refine E_callV (v := some (.int 3)) (As := [.ref 0, .int 0, .int a2, .int 40, .int 0]) (r0 := []) (cs2 := w0) rfl rfl rfl (Nat.le_of_ble_eq_true rfl) rfl rfl e22 (by decide) rfl ?_
    refine E_goto (t := 32) rfl rfl ?_
    refine E_istore (L2 := [some (.ref 0), some (.int 0), some (.int a2), some (.int a3), some (.int 1), some (.int 3), none, none, none]) rfl rfl ?_
    refine E_iload rfl rfl ?_
    refine E_if (t := 56) (b := true) rfl rfl (by decide) ?_
    refine E_iload rfl rfl ?_
    refine E_if (t := 71) (b := false) rfl rfl (by decide) ?_
    refine E_aload_n rfl rfl ?_
    refine E_iload rfl rfl ?_
    refine E_callV (v := some (.int (-3))) (As := [.ref 0, .int 3]) (r0 := []) (cs2 := (w0.set 48 (.inl [0, 0, 0, 1, 0, 0, 0, 0]))) rfl rfl rfl (Nat.le_of_ble_eq_true rfl) rfl rfl c32_X5_refuse (by decide) (by simp only [List.length_set]) ?_
    refine E_bipush (x := 10) rfl (by decide) ?_
    refine E_isub (z := (-13)) rfl (by decide) ?_
    exact E_iret rfl rfl, by
    refine Ef.in (md := mX6_costs) (L := [some (.ref 65), some (.int 0), some (.int a2), some (.int a3), some (.int 1), none, none, none, none, none, none, none]) rfl (Nat.le_of_ble_eq_true rfl) rfl ?_
    refine E_aload_n rfl rfl ?_
    refine E_iload_n rfl rfl ?_
    refine E_iconst (x := 0) rfl (by decide) ?_
    refine E_bipush (x := 7) rfl (by decide) ?_
    have e5 : Ev ab_Z0 1 134 [.ref 65, .int a3, .int 0, .int 7] (w0.set 48 (.inl [0, 0, 0, 1, 0, 0, 0, 0])) (some (.int 1), (w0.set 48 (.inl [0, 0, 0, 1, 0, 0, 0, 0]))) := by
      refine Ef.in (md := mX6_isFrom) (L := [some (.ref 65), some (.int a3), some (.int 0), some (.int 7)]) rfl (Nat.le_of_ble_eq_true rfl) rfl ?_
      refine E_iload_n rfl rfl ?_
      refine E_iload_n rfl rfl ?_
      refine E_ic (t := 14) (b := false) rfl rfl ((cn_lt (rfl : (a3).toInt = (a3).toInt) (by decide : (0 : Int32).toInt = 0)).trans (decide_eq_false (by omega))) ?_
      refine E_iload_n rfl rfl ?_
      refine E_iload_n rfl rfl ?_
      refine E_ic (t := 14) (b := false) rfl rfl ((cn_gt (rfl : (a3).toInt = (a3).toInt) (by decide : (7 : Int32).toInt = 7)).trans (decide_eq_false (by omega))) ?_
      refine E_iconst (x := 1) rfl (by decide) ?_
      refine E_goto (t := 15) rfl rfl ?_
      exact E_iret rfl rfl
    refine E_callV (v := some (.int 1)) (As := [.ref 65, .int a3, .int 0, .int 7]) (r0 := []) (cs2 := (w0.set 48 (.inl [0, 0, 0, 1, 0, 0, 0, 0]))) rfl rfl rfl (Nat.le_of_ble_eq_true rfl) rfl rfl e5 (by decide) rfl ?_
    refine E_if (t := 15) (b := true) rfl rfl (by decide) ?_
    refine E_aload_n rfl rfl ?_
    refine E_iload_n rfl rfl ?_
    refine E_iload_n rfl rfl ?_
    refine E_bipush (x := 40) rfl (by decide) ?_
    refine E_iload rfl rfl ?_
    refine E_if (t := 31) (b := false) rfl rfl (by decide) ?_
    refine E_iload rfl rfl ?_
    refine E_iconst (x := 1) rfl (by decide) ?_
    refine E_ic (t := 35) (b := false) rfl rfl (by decide) ?_
    refine E_iconst (x := 1) rfl (by decide) ?_
    refine E_goto (t := 36) rfl rfl ?_
    have e29 : Ev ab_Z0 3 186 [.ref 65, .int 0, .int a2, .int 40, .int 1] (w0.set 48 (.inl [0, 0, 0, 1, 0, 0, 0, 0])) (some (.int (-3)), (w0.set 48 (.inl [0, 0, 0, 1, 0, 0, 0, 0]))) := by
      refine Ef.in (md := mX6_barsOf) (L := [some (.ref 65), some (.int 0), some (.int a2), some (.int 40), some (.int 1), none]) rfl (Nat.le_of_ble_eq_true rfl) rfl ?_
      refine E_aload_n rfl rfl ?_
      refine E_iload_n rfl rfl ?_
      refine E_callV (v := some (.int (-3))) (As := [.ref 65, .int 0]) (r0 := []) (cs2 := (w0.set 48 (.inl [0, 0, 0, 1, 0, 0, 0, 0]))) rfl rfl rfl (Nat.le_of_ble_eq_true rfl) rfl rfl c205_X6_wanted (by decide) rfl ?_
      refine E_istore (L2 := [some (.ref 65), some (.int 0), some (.int a2), some (.int 40), some (.int 1), some (.int (-3))]) rfl rfl ?_
      refine E_iload rfl rfl ?_
      refine E_if (t := 17) (b := false) rfl rfl (by decide) ?_
      refine E_iload rfl rfl ?_
      refine E_goto (t := 59) rfl rfl ?_
      exact E_iret rfl rfl
    refine E_callV (v := some (.int (-3))) (As := [.ref 65, .int 0, .int a2, .int 40, .int 1]) (r0 := []) (cs2 := (w0.set 48 (.inl [0, 0, 0, 1, 0, 0, 0, 0]))) rfl rfl rfl (Nat.le_of_ble_eq_true rfl) rfl rfl e29 (by decide) rfl ?_
    refine E_istore (L2 := [some (.ref 65), some (.int 0), some (.int a2), some (.int a3), some (.int 1), some (.int (-3)), none, none, none, none, none, none]) rfl rfl ?_
    refine E_iconst (x := 0) rfl (by decide) ?_
    refine E_istore (L2 := [some (.ref 65), some (.int 0), some (.int a2), some (.int a3), some (.int 1), some (.int (-3)), some (.int 0), none, none, none, none, none]) rfl rfl ?_
    refine E_iload rfl rfl ?_
    refine E_iload_n rfl rfl ?_
    refine E_ic (t := 80) (b := false) rfl rfl ((cn_ge (by decide : (0 : Int32).toInt = 0) (rfl : (a2).toInt = (a2).toInt)).trans (decide_eq_false (by omega))) ?_
    refine E_iload rfl rfl ?_
    refine E_if (t := 80) (b := true) rfl rfl (by decide) ?_
    refine E_iload rfl rfl ?_
    refine E_if (t := 92) (b := false) rfl rfl (by decide) ?_
    refine E_aload_n rfl rfl ?_
    refine E_iload rfl rfl ?_
    refine E_callV (v := some (.int (-13))) (As := [.ref 65, .int (-3)]) (r0 := []) (cs2 := ((w0.set 48 (.inl [0, 0, 0, 1, 0, 0, 0, 0])).set 66 (.inl [0, 0, 0, 1, 0, 0, 0, 0]))) rfl rfl rfl (Nat.le_of_ble_eq_true rfl) rfl rfl c258_X6_noTen (by decide) (by simp only [List.length_set]) ?_
    exact E_iret rfl rfl, (by simp only [List.length_set]; rfl), (by simp only [List.length_set]; rfl), ((ab_szs rfl).trans ((ab_szs rfl).trans rfl)), fun _ => rfl⟩
theorem f_costs_47 (a2 a3 : Int32) (ha2h : a2.toInt ≤ 0) (ha3l : (0 : Int) ≤ a3.toInt) (ha3h : a3.toInt ≤ 7) : p1_P 6 100 4 188 [.ref 0, .int 1, .int a2, .int a3, .int 1] [.ref 65, .int 1, .int a2, .int a3, .int 1] :=
  ⟨(-13), (w0.set 48 (.inl [0, 0, 0, 1, 0, 0, 0, 0])), ((w0.set 48 (.inl [0, 0, 0, 1, 0, 0, 0, 0])).set 66 (.inl [0, 0, 0, 1, 0, 0, 0, 0])), by
    refine Ef.in (md := mX5_costs) (L := [some (.ref 0), some (.int 1), some (.int a2), some (.int a3), some (.int 1), none, none, none, none]) rfl (Nat.le_of_ble_eq_true rfl) rfl ?_
    refine E_iload_n rfl rfl ?_
    have e2 : Ev ab_Z0 1 47 [.int a3] w0 (some (.int 1), w0) := by
      refine Ef.in (md := mX4_isWish) (L := [some (.int a3)]) rfl (Nat.le_of_ble_eq_true rfl) rfl ?_
      refine E_iload_n rfl rfl ?_
      refine E_if (t := 14) (b := false) rfl rfl ((cn_lt (rfl : (a3).toInt = (a3).toInt) (by decide : (0 : Int32).toInt = 0)).trans (decide_eq_false (by omega))) ?_
      refine E_iload_n rfl rfl ?_
      refine E_bipush (x := 8) rfl (by decide) ?_
      refine E_ic (t := 14) (b := false) rfl rfl ((cn_ge (rfl : (a3).toInt = (a3).toInt) (by decide : (8 : Int32).toInt = 8)).trans (decide_eq_false (by omega))) ?_
      refine E_iconst (x := 1) rfl (by decide) ?_
      refine E_goto (t := 15) rfl rfl ?_
      exact E_iret rfl rfl
    refine E_callS (v := some (.int 1)) (As := [.int a3]) (r0 := []) (cs2 := w0) rfl rfl rfl (Nat.le_of_ble_eq_true rfl) rfl e2 (by decide) rfl ?_
    refine E_if (t := 31) (b := false) rfl rfl (by decide) ?_
    refine E_aload_n rfl rfl ?_
    refine E_iload_n rfl rfl ?_
    refine E_iload_n rfl rfl ?_
    refine E_bipush (x := 40) rfl (by decide) ?_
    refine E_iload rfl rfl ?_
    refine E_callS (v := some (.int 1)) (As := [.int 1]) (r0 := [.int 40, .int a2, .int 1, .ref 0]) (cs2 := w0) rfl rfl rfl (Nat.le_of_ble_eq_true rfl) rfl c239_X5_isOneOfTwo (by decide) rfl ?_
    refine E_if (t := 24) (b := true) rfl rfl (by decide) ?_
    refine E_iconst (x := 0) rfl (by decide) ?_
    have e22 : Ev ab_Z0 3 120 [.ref 0, .int 1, .int a2, .int 40, .int 0] w0 (some (.int 3), w0) := by
      refine Ef.in (md := mX5_whyNoTwos) (L := [some (.ref 0), some (.int 1), some (.int a2), some (.int 40), some (.int 0), none]) rfl (Nat.le_of_ble_eq_true rfl) rfl ?_
      refine E_aload_n rfl rfl ?_
      refine E_iload_n rfl rfl ?_
      refine E_callV (v := some (.int 3)) (As := [.ref 0, .int 1]) (r0 := []) (cs2 := w0) rfl rfl rfl (Nat.le_of_ble_eq_true rfl) rfl rfl c36_X5_whyNoRow (by decide) rfl ?_
      refine E_istore (L2 := [some (.ref 0), some (.int 1), some (.int a2), some (.int 40), some (.int 0), some (.int 3)]) rfl rfl ?_
      refine E_iload rfl rfl ?_
      refine E_if (t := 15) (b := false) rfl rfl (by decide) ?_
      refine E_iload rfl rfl ?_
      exact E_iret rfl rfl
    refine E_callV (v := some (.int 3)) (As := [.ref 0, .int 1, .int a2, .int 40, .int 0]) (r0 := []) (cs2 := w0) rfl rfl rfl (Nat.le_of_ble_eq_true rfl) rfl rfl e22 (by decide) rfl ?_
    refine E_goto (t := 32) rfl rfl ?_
    refine E_istore (L2 := [some (.ref 0), some (.int 1), some (.int a2), some (.int a3), some (.int 1), some (.int 3), none, none, none]) rfl rfl ?_
    refine E_iload rfl rfl ?_
    refine E_if (t := 56) (b := true) rfl rfl (by decide) ?_
    refine E_iload rfl rfl ?_
    refine E_if (t := 71) (b := false) rfl rfl (by decide) ?_
    refine E_aload_n rfl rfl ?_
    refine E_iload rfl rfl ?_
    refine E_callV (v := some (.int (-3))) (As := [.ref 0, .int 3]) (r0 := []) (cs2 := (w0.set 48 (.inl [0, 0, 0, 1, 0, 0, 0, 0]))) rfl rfl rfl (Nat.le_of_ble_eq_true rfl) rfl rfl c32_X5_refuse (by decide) (by simp only [List.length_set]) ?_
    refine E_bipush (x := 10) rfl (by decide) ?_
    refine E_isub (z := (-13)) rfl (by decide) ?_
    exact E_iret rfl rfl, by
    refine Ef.in (md := mX6_costs) (L := [some (.ref 65), some (.int 1), some (.int a2), some (.int a3), some (.int 1), none, none, none, none, none, none, none]) rfl (Nat.le_of_ble_eq_true rfl) rfl ?_
    refine E_aload_n rfl rfl ?_
    refine E_iload_n rfl rfl ?_
    refine E_iconst (x := 0) rfl (by decide) ?_
    refine E_bipush (x := 7) rfl (by decide) ?_
    have e5 : Ev ab_Z0 1 134 [.ref 65, .int a3, .int 0, .int 7] (w0.set 48 (.inl [0, 0, 0, 1, 0, 0, 0, 0])) (some (.int 1), (w0.set 48 (.inl [0, 0, 0, 1, 0, 0, 0, 0]))) := by
      refine Ef.in (md := mX6_isFrom) (L := [some (.ref 65), some (.int a3), some (.int 0), some (.int 7)]) rfl (Nat.le_of_ble_eq_true rfl) rfl ?_
      refine E_iload_n rfl rfl ?_
      refine E_iload_n rfl rfl ?_
      refine E_ic (t := 14) (b := false) rfl rfl ((cn_lt (rfl : (a3).toInt = (a3).toInt) (by decide : (0 : Int32).toInt = 0)).trans (decide_eq_false (by omega))) ?_
      refine E_iload_n rfl rfl ?_
      refine E_iload_n rfl rfl ?_
      refine E_ic (t := 14) (b := false) rfl rfl ((cn_gt (rfl : (a3).toInt = (a3).toInt) (by decide : (7 : Int32).toInt = 7)).trans (decide_eq_false (by omega))) ?_
      refine E_iconst (x := 1) rfl (by decide) ?_
      refine E_goto (t := 15) rfl rfl ?_
      exact E_iret rfl rfl
    refine E_callV (v := some (.int 1)) (As := [.ref 65, .int a3, .int 0, .int 7]) (r0 := []) (cs2 := (w0.set 48 (.inl [0, 0, 0, 1, 0, 0, 0, 0]))) rfl rfl rfl (Nat.le_of_ble_eq_true rfl) rfl rfl e5 (by decide) rfl ?_
    refine E_if (t := 15) (b := true) rfl rfl (by decide) ?_
    refine E_aload_n rfl rfl ?_
    refine E_iload_n rfl rfl ?_
    refine E_iload_n rfl rfl ?_
    refine E_bipush (x := 40) rfl (by decide) ?_
    refine E_iload rfl rfl ?_
    refine E_if (t := 31) (b := false) rfl rfl (by decide) ?_
    refine E_iload rfl rfl ?_
    refine E_iconst (x := 1) rfl (by decide) ?_
    refine E_ic (t := 35) (b := false) rfl rfl (by decide) ?_
    refine E_iconst (x := 1) rfl (by decide) ?_
    refine E_goto (t := 36) rfl rfl ?_
    have e29 : Ev ab_Z0 3 186 [.ref 65, .int 1, .int a2, .int 40, .int 1] (w0.set 48 (.inl [0, 0, 0, 1, 0, 0, 0, 0])) (some (.int (-3)), (w0.set 48 (.inl [0, 0, 0, 1, 0, 0, 0, 0]))) := by
      refine Ef.in (md := mX6_barsOf) (L := [some (.ref 65), some (.int 1), some (.int a2), some (.int 40), some (.int 1), none]) rfl (Nat.le_of_ble_eq_true rfl) rfl ?_
      refine E_aload_n rfl rfl ?_
      refine E_iload_n rfl rfl ?_
      refine E_callV (v := some (.int (-3))) (As := [.ref 65, .int 1]) (r0 := []) (cs2 := (w0.set 48 (.inl [0, 0, 0, 1, 0, 0, 0, 0]))) rfl rfl rfl (Nat.le_of_ble_eq_true rfl) rfl rfl c208_X6_wanted (by decide) rfl ?_
      refine E_istore (L2 := [some (.ref 65), some (.int 1), some (.int a2), some (.int 40), some (.int 1), some (.int (-3))]) rfl rfl ?_
      refine E_iload rfl rfl ?_
      refine E_if (t := 17) (b := false) rfl rfl (by decide) ?_
      refine E_iload rfl rfl ?_
      refine E_goto (t := 59) rfl rfl ?_
      exact E_iret rfl rfl
    refine E_callV (v := some (.int (-3))) (As := [.ref 65, .int 1, .int a2, .int 40, .int 1]) (r0 := []) (cs2 := (w0.set 48 (.inl [0, 0, 0, 1, 0, 0, 0, 0]))) rfl rfl rfl (Nat.le_of_ble_eq_true rfl) rfl rfl e29 (by decide) rfl ?_
    refine E_istore (L2 := [some (.ref 65), some (.int 1), some (.int a2), some (.int a3), some (.int 1), some (.int (-3)), none, none, none, none, none, none]) rfl rfl ?_
    refine E_iconst (x := 0) rfl (by decide) ?_
    refine E_istore (L2 := [some (.ref 65), some (.int 1), some (.int a2), some (.int a3), some (.int 1), some (.int (-3)), some (.int 0), none, none, none, none, none]) rfl rfl ?_
    refine E_iload rfl rfl ?_
    refine E_iload_n rfl rfl ?_
    refine E_ic (t := 80) (b := true) rfl rfl ((cn_ge (by decide : (0 : Int32).toInt = 0) (rfl : (a2).toInt = (a2).toInt)).trans (decide_eq_true (by omega))) ?_
    refine E_iload rfl rfl ?_
    refine E_if (t := 92) (b := false) rfl rfl (by decide) ?_
    refine E_aload_n rfl rfl ?_
    refine E_iload rfl rfl ?_
    refine E_callV (v := some (.int (-13))) (As := [.ref 65, .int (-3)]) (r0 := []) (cs2 := ((w0.set 48 (.inl [0, 0, 0, 1, 0, 0, 0, 0])).set 66 (.inl [0, 0, 0, 1, 0, 0, 0, 0]))) rfl rfl rfl (Nat.le_of_ble_eq_true rfl) rfl rfl c258_X6_noTen (by decide) (by simp only [List.length_set]) ?_
    exact E_iret rfl rfl, (by simp only [List.length_set]; rfl), (by simp only [List.length_set]; rfl), ((ab_szs rfl).trans ((ab_szs rfl).trans rfl)), fun _ => rfl⟩
theorem f_costs_48 (a2 a3 : Int32) (ha2l : (1 : Int) ≤ a2.toInt) (ha3l : (0 : Int) ≤ a3.toInt) (ha3h : a3.toInt ≤ 7) : p1_P 6 100 4 188 [.ref 0, .int 1, .int a2, .int a3, .int 1] [.ref 65, .int 1, .int a2, .int a3, .int 1] :=
  ⟨(-13), (w0.set 48 (.inl [0, 0, 0, 1, 0, 0, 0, 0])), ((w0.set 48 (.inl [0, 0, 0, 1, 0, 0, 0, 0])).set 66 (.inl [0, 0, 0, 1, 0, 0, 0, 0])), by
    refine Ef.in (md := mX5_costs) (L := [some (.ref 0), some (.int 1), some (.int a2), some (.int a3), some (.int 1), none, none, none, none]) rfl (Nat.le_of_ble_eq_true rfl) rfl ?_
    refine E_iload_n rfl rfl ?_
    have e2 : Ev ab_Z0 1 47 [.int a3] w0 (some (.int 1), w0) := by
      refine Ef.in (md := mX4_isWish) (L := [some (.int a3)]) rfl (Nat.le_of_ble_eq_true rfl) rfl ?_
      refine E_iload_n rfl rfl ?_
      refine E_if (t := 14) (b := false) rfl rfl ((cn_lt (rfl : (a3).toInt = (a3).toInt) (by decide : (0 : Int32).toInt = 0)).trans (decide_eq_false (by omega))) ?_
      refine E_iload_n rfl rfl ?_
      refine E_bipush (x := 8) rfl (by decide) ?_
      refine E_ic (t := 14) (b := false) rfl rfl ((cn_ge (rfl : (a3).toInt = (a3).toInt) (by decide : (8 : Int32).toInt = 8)).trans (decide_eq_false (by omega))) ?_
      refine E_iconst (x := 1) rfl (by decide) ?_
      refine E_goto (t := 15) rfl rfl ?_
      exact E_iret rfl rfl
    refine E_callS (v := some (.int 1)) (As := [.int a3]) (r0 := []) (cs2 := w0) rfl rfl rfl (Nat.le_of_ble_eq_true rfl) rfl e2 (by decide) rfl ?_
    refine E_if (t := 31) (b := false) rfl rfl (by decide) ?_
    refine E_aload_n rfl rfl ?_
    refine E_iload_n rfl rfl ?_
    refine E_iload_n rfl rfl ?_
    refine E_bipush (x := 40) rfl (by decide) ?_
    refine E_iload rfl rfl ?_
    refine E_callS (v := some (.int 1)) (As := [.int 1]) (r0 := [.int 40, .int a2, .int 1, .ref 0]) (cs2 := w0) rfl rfl rfl (Nat.le_of_ble_eq_true rfl) rfl c239_X5_isOneOfTwo (by decide) rfl ?_
    refine E_if (t := 24) (b := true) rfl rfl (by decide) ?_
    refine E_iconst (x := 0) rfl (by decide) ?_
    have e22 : Ev ab_Z0 3 120 [.ref 0, .int 1, .int a2, .int 40, .int 0] w0 (some (.int 3), w0) := by
      refine Ef.in (md := mX5_whyNoTwos) (L := [some (.ref 0), some (.int 1), some (.int a2), some (.int 40), some (.int 0), none]) rfl (Nat.le_of_ble_eq_true rfl) rfl ?_
      refine E_aload_n rfl rfl ?_
      refine E_iload_n rfl rfl ?_
      refine E_callV (v := some (.int 3)) (As := [.ref 0, .int 1]) (r0 := []) (cs2 := w0) rfl rfl rfl (Nat.le_of_ble_eq_true rfl) rfl rfl c36_X5_whyNoRow (by decide) rfl ?_
      refine E_istore (L2 := [some (.ref 0), some (.int 1), some (.int a2), some (.int 40), some (.int 0), some (.int 3)]) rfl rfl ?_
      refine E_iload rfl rfl ?_
      refine E_if (t := 15) (b := false) rfl rfl (by decide) ?_
      refine E_iload rfl rfl ?_
      exact E_iret rfl rfl
    refine E_callV (v := some (.int 3)) (As := [.ref 0, .int 1, .int a2, .int 40, .int 0]) (r0 := []) (cs2 := w0) rfl rfl rfl (Nat.le_of_ble_eq_true rfl) rfl rfl e22 (by decide) rfl ?_
    refine E_goto (t := 32) rfl rfl ?_
    refine E_istore (L2 := [some (.ref 0), some (.int 1), some (.int a2), some (.int a3), some (.int 1), some (.int 3), none, none, none]) rfl rfl ?_
    refine E_iload rfl rfl ?_
    refine E_if (t := 56) (b := true) rfl rfl (by decide) ?_
    refine E_iload rfl rfl ?_
    refine E_if (t := 71) (b := false) rfl rfl (by decide) ?_
    refine E_aload_n rfl rfl ?_
    refine E_iload rfl rfl ?_
    refine E_callV (v := some (.int (-3))) (As := [.ref 0, .int 3]) (r0 := []) (cs2 := (w0.set 48 (.inl [0, 0, 0, 1, 0, 0, 0, 0]))) rfl rfl rfl (Nat.le_of_ble_eq_true rfl) rfl rfl c32_X5_refuse (by decide) (by simp only [List.length_set]) ?_
    refine E_bipush (x := 10) rfl (by decide) ?_
    refine E_isub (z := (-13)) rfl (by decide) ?_
    exact E_iret rfl rfl, by
    refine Ef.in (md := mX6_costs) (L := [some (.ref 65), some (.int 1), some (.int a2), some (.int a3), some (.int 1), none, none, none, none, none, none, none]) rfl (Nat.le_of_ble_eq_true rfl) rfl ?_
    refine E_aload_n rfl rfl ?_
    refine E_iload_n rfl rfl ?_
    refine E_iconst (x := 0) rfl (by decide) ?_
    refine E_bipush (x := 7) rfl (by decide) ?_
    have e5 : Ev ab_Z0 1 134 [.ref 65, .int a3, .int 0, .int 7] (w0.set 48 (.inl [0, 0, 0, 1, 0, 0, 0, 0])) (some (.int 1), (w0.set 48 (.inl [0, 0, 0, 1, 0, 0, 0, 0]))) := by
      refine Ef.in (md := mX6_isFrom) (L := [some (.ref 65), some (.int a3), some (.int 0), some (.int 7)]) rfl (Nat.le_of_ble_eq_true rfl) rfl ?_
      refine E_iload_n rfl rfl ?_
      refine E_iload_n rfl rfl ?_
      refine E_ic (t := 14) (b := false) rfl rfl ((cn_lt (rfl : (a3).toInt = (a3).toInt) (by decide : (0 : Int32).toInt = 0)).trans (decide_eq_false (by omega))) ?_
      refine E_iload_n rfl rfl ?_
      refine E_iload_n rfl rfl ?_
      refine E_ic (t := 14) (b := false) rfl rfl ((cn_gt (rfl : (a3).toInt = (a3).toInt) (by decide : (7 : Int32).toInt = 7)).trans (decide_eq_false (by omega))) ?_
      refine E_iconst (x := 1) rfl (by decide) ?_
      refine E_goto (t := 15) rfl rfl ?_
      exact E_iret rfl rfl
    refine E_callV (v := some (.int 1)) (As := [.ref 65, .int a3, .int 0, .int 7]) (r0 := []) (cs2 := (w0.set 48 (.inl [0, 0, 0, 1, 0, 0, 0, 0]))) rfl rfl rfl (Nat.le_of_ble_eq_true rfl) rfl rfl e5 (by decide) rfl ?_
    refine E_if (t := 15) (b := true) rfl rfl (by decide) ?_
    refine E_aload_n rfl rfl ?_
    refine E_iload_n rfl rfl ?_
    refine E_iload_n rfl rfl ?_
    refine E_bipush (x := 40) rfl (by decide) ?_
    refine E_iload rfl rfl ?_
    refine E_if (t := 31) (b := false) rfl rfl (by decide) ?_
    refine E_iload rfl rfl ?_
    refine E_iconst (x := 1) rfl (by decide) ?_
    refine E_ic (t := 35) (b := false) rfl rfl (by decide) ?_
    refine E_iconst (x := 1) rfl (by decide) ?_
    refine E_goto (t := 36) rfl rfl ?_
    have e29 : Ev ab_Z0 3 186 [.ref 65, .int 1, .int a2, .int 40, .int 1] (w0.set 48 (.inl [0, 0, 0, 1, 0, 0, 0, 0])) (some (.int (-3)), (w0.set 48 (.inl [0, 0, 0, 1, 0, 0, 0, 0]))) := by
      refine Ef.in (md := mX6_barsOf) (L := [some (.ref 65), some (.int 1), some (.int a2), some (.int 40), some (.int 1), none]) rfl (Nat.le_of_ble_eq_true rfl) rfl ?_
      refine E_aload_n rfl rfl ?_
      refine E_iload_n rfl rfl ?_
      refine E_callV (v := some (.int (-3))) (As := [.ref 65, .int 1]) (r0 := []) (cs2 := (w0.set 48 (.inl [0, 0, 0, 1, 0, 0, 0, 0]))) rfl rfl rfl (Nat.le_of_ble_eq_true rfl) rfl rfl c208_X6_wanted (by decide) rfl ?_
      refine E_istore (L2 := [some (.ref 65), some (.int 1), some (.int a2), some (.int 40), some (.int 1), some (.int (-3))]) rfl rfl ?_
      refine E_iload rfl rfl ?_
      refine E_if (t := 17) (b := false) rfl rfl (by decide) ?_
      refine E_iload rfl rfl ?_
      refine E_goto (t := 59) rfl rfl ?_
      exact E_iret rfl rfl
    refine E_callV (v := some (.int (-3))) (As := [.ref 65, .int 1, .int a2, .int 40, .int 1]) (r0 := []) (cs2 := (w0.set 48 (.inl [0, 0, 0, 1, 0, 0, 0, 0]))) rfl rfl rfl (Nat.le_of_ble_eq_true rfl) rfl rfl e29 (by decide) rfl ?_
    refine E_istore (L2 := [some (.ref 65), some (.int 1), some (.int a2), some (.int a3), some (.int 1), some (.int (-3)), none, none, none, none, none, none]) rfl rfl ?_
    refine E_iconst (x := 0) rfl (by decide) ?_
    refine E_istore (L2 := [some (.ref 65), some (.int 1), some (.int a2), some (.int a3), some (.int 1), some (.int (-3)), some (.int 0), none, none, none, none, none]) rfl rfl ?_
    refine E_iload rfl rfl ?_
    refine E_iload_n rfl rfl ?_
    refine E_ic (t := 80) (b := false) rfl rfl ((cn_ge (by decide : (0 : Int32).toInt = 0) (rfl : (a2).toInt = (a2).toInt)).trans (decide_eq_false (by omega))) ?_
    refine E_iload rfl rfl ?_
    refine E_if (t := 80) (b := true) rfl rfl (by decide) ?_
    refine E_iload rfl rfl ?_
    refine E_if (t := 92) (b := false) rfl rfl (by decide) ?_
    refine E_aload_n rfl rfl ?_
    refine E_iload rfl rfl ?_
    refine E_callV (v := some (.int (-13))) (As := [.ref 65, .int (-3)]) (r0 := []) (cs2 := ((w0.set 48 (.inl [0, 0, 0, 1, 0, 0, 0, 0])).set 66 (.inl [0, 0, 0, 1, 0, 0, 0, 0]))) rfl rfl rfl (Nat.le_of_ble_eq_true rfl) rfl rfl c258_X6_noTen (by decide) (by simp only [List.length_set]) ?_
    exact E_iret rfl rfl, (by simp only [List.length_set]; rfl), (by simp only [List.length_set]; rfl), ((ab_szs rfl).trans ((ab_szs rfl).trans rfl)), fun _ => rfl⟩
theorem f_costs_49 (a2 a3 : Int32) (ha2h : a2.toInt ≤ 0) (ha3l : (0 : Int) ≤ a3.toInt) (ha3h : a3.toInt ≤ 7) : p1_P 6 100 4 188 [.ref 0, .int 2, .int a2, .int a3, .int 1] [.ref 65, .int 2, .int a2, .int a3, .int 1] :=
  ⟨(-13), (w0.set 48 (.inl [0, 0, 0, 1, 0, 0, 0, 0])), ((w0.set 48 (.inl [0, 0, 0, 1, 0, 0, 0, 0])).set 66 (.inl [0, 0, 0, 1, 0, 0, 0, 0])), by
    refine Ef.in (md := mX5_costs) (L := [some (.ref 0), some (.int 2), some (.int a2), some (.int a3), some (.int 1), none, none, none, none]) rfl (Nat.le_of_ble_eq_true rfl) rfl ?_
    refine E_iload_n rfl rfl ?_
    have e2 : Ev ab_Z0 1 47 [.int a3] w0 (some (.int 1), w0) := by
      refine Ef.in (md := mX4_isWish) (L := [some (.int a3)]) rfl (Nat.le_of_ble_eq_true rfl) rfl ?_
      refine E_iload_n rfl rfl ?_
      refine E_if (t := 14) (b := false) rfl rfl ((cn_lt (rfl : (a3).toInt = (a3).toInt) (by decide : (0 : Int32).toInt = 0)).trans (decide_eq_false (by omega))) ?_
      refine E_iload_n rfl rfl ?_
      refine E_bipush (x := 8) rfl (by decide) ?_
      refine E_ic (t := 14) (b := false) rfl rfl ((cn_ge (rfl : (a3).toInt = (a3).toInt) (by decide : (8 : Int32).toInt = 8)).trans (decide_eq_false (by omega))) ?_
      refine E_iconst (x := 1) rfl (by decide) ?_
      refine E_goto (t := 15) rfl rfl ?_
      exact E_iret rfl rfl
    refine E_callS (v := some (.int 1)) (As := [.int a3]) (r0 := []) (cs2 := w0) rfl rfl rfl (Nat.le_of_ble_eq_true rfl) rfl e2 (by decide) rfl ?_
    refine E_if (t := 31) (b := false) rfl rfl (by decide) ?_
    refine E_aload_n rfl rfl ?_
    refine E_iload_n rfl rfl ?_
    refine E_iload_n rfl rfl ?_
    refine E_bipush (x := 40) rfl (by decide) ?_
    refine E_iload rfl rfl ?_
    refine E_callS (v := some (.int 1)) (As := [.int 1]) (r0 := [.int 40, .int a2, .int 2, .ref 0]) (cs2 := w0) rfl rfl rfl (Nat.le_of_ble_eq_true rfl) rfl c239_X5_isOneOfTwo (by decide) rfl ?_
    refine E_if (t := 24) (b := true) rfl rfl (by decide) ?_
    refine E_iconst (x := 0) rfl (by decide) ?_
    have e22 : Ev ab_Z0 3 120 [.ref 0, .int 2, .int a2, .int 40, .int 0] w0 (some (.int 3), w0) := by
      refine Ef.in (md := mX5_whyNoTwos) (L := [some (.ref 0), some (.int 2), some (.int a2), some (.int 40), some (.int 0), none]) rfl (Nat.le_of_ble_eq_true rfl) rfl ?_
      refine E_aload_n rfl rfl ?_
      refine E_iload_n rfl rfl ?_
      refine E_callV (v := some (.int 3)) (As := [.ref 0, .int 2]) (r0 := []) (cs2 := w0) rfl rfl rfl (Nat.le_of_ble_eq_true rfl) rfl rfl c40_X5_whyNoRow (by decide) rfl ?_
      refine E_istore (L2 := [some (.ref 0), some (.int 2), some (.int a2), some (.int 40), some (.int 0), some (.int 3)]) rfl rfl ?_
      refine E_iload rfl rfl ?_
      refine E_if (t := 15) (b := false) rfl rfl (by decide) ?_
      refine E_iload rfl rfl ?_
      exact E_iret rfl rfl
    refine E_callV (v := some (.int 3)) (As := [.ref 0, .int 2, .int a2, .int 40, .int 0]) (r0 := []) (cs2 := w0) rfl rfl rfl (Nat.le_of_ble_eq_true rfl) rfl rfl e22 (by decide) rfl ?_
    refine E_goto (t := 32) rfl rfl ?_
    refine E_istore (L2 := [some (.ref 0), some (.int 2), some (.int a2), some (.int a3), some (.int 1), some (.int 3), none, none, none]) rfl rfl ?_
    refine E_iload rfl rfl ?_
    refine E_if (t := 56) (b := true) rfl rfl (by decide) ?_
    refine E_iload rfl rfl ?_
    refine E_if (t := 71) (b := false) rfl rfl (by decide) ?_
    refine E_aload_n rfl rfl ?_
    refine E_iload rfl rfl ?_
    refine E_callV (v := some (.int (-3))) (As := [.ref 0, .int 3]) (r0 := []) (cs2 := (w0.set 48 (.inl [0, 0, 0, 1, 0, 0, 0, 0]))) rfl rfl rfl (Nat.le_of_ble_eq_true rfl) rfl rfl c32_X5_refuse (by decide) (by simp only [List.length_set]) ?_
    refine E_bipush (x := 10) rfl (by decide) ?_
    refine E_isub (z := (-13)) rfl (by decide) ?_
    exact E_iret rfl rfl, by
    refine Ef.in (md := mX6_costs) (L := [some (.ref 65), some (.int 2), some (.int a2), some (.int a3), some (.int 1), none, none, none, none, none, none, none]) rfl (Nat.le_of_ble_eq_true rfl) rfl ?_
    refine E_aload_n rfl rfl ?_
    refine E_iload_n rfl rfl ?_
    refine E_iconst (x := 0) rfl (by decide) ?_
    refine E_bipush (x := 7) rfl (by decide) ?_
    have e5 : Ev ab_Z0 1 134 [.ref 65, .int a3, .int 0, .int 7] (w0.set 48 (.inl [0, 0, 0, 1, 0, 0, 0, 0])) (some (.int 1), (w0.set 48 (.inl [0, 0, 0, 1, 0, 0, 0, 0]))) := by
      refine Ef.in (md := mX6_isFrom) (L := [some (.ref 65), some (.int a3), some (.int 0), some (.int 7)]) rfl (Nat.le_of_ble_eq_true rfl) rfl ?_
      refine E_iload_n rfl rfl ?_
      refine E_iload_n rfl rfl ?_
      refine E_ic (t := 14) (b := false) rfl rfl ((cn_lt (rfl : (a3).toInt = (a3).toInt) (by decide : (0 : Int32).toInt = 0)).trans (decide_eq_false (by omega))) ?_
      refine E_iload_n rfl rfl ?_
      refine E_iload_n rfl rfl ?_
      refine E_ic (t := 14) (b := false) rfl rfl ((cn_gt (rfl : (a3).toInt = (a3).toInt) (by decide : (7 : Int32).toInt = 7)).trans (decide_eq_false (by omega))) ?_
      refine E_iconst (x := 1) rfl (by decide) ?_
      refine E_goto (t := 15) rfl rfl ?_
      exact E_iret rfl rfl
    refine E_callV (v := some (.int 1)) (As := [.ref 65, .int a3, .int 0, .int 7]) (r0 := []) (cs2 := (w0.set 48 (.inl [0, 0, 0, 1, 0, 0, 0, 0]))) rfl rfl rfl (Nat.le_of_ble_eq_true rfl) rfl rfl e5 (by decide) rfl ?_
    refine E_if (t := 15) (b := true) rfl rfl (by decide) ?_
    refine E_aload_n rfl rfl ?_
    refine E_iload_n rfl rfl ?_
    refine E_iload_n rfl rfl ?_
    refine E_bipush (x := 40) rfl (by decide) ?_
    refine E_iload rfl rfl ?_
    refine E_if (t := 31) (b := false) rfl rfl (by decide) ?_
    refine E_iload rfl rfl ?_
    refine E_iconst (x := 1) rfl (by decide) ?_
    refine E_ic (t := 35) (b := false) rfl rfl (by decide) ?_
    refine E_iconst (x := 1) rfl (by decide) ?_
    refine E_goto (t := 36) rfl rfl ?_
    have e29 : Ev ab_Z0 3 186 [.ref 65, .int 2, .int a2, .int 40, .int 1] (w0.set 48 (.inl [0, 0, 0, 1, 0, 0, 0, 0])) (some (.int (-3)), (w0.set 48 (.inl [0, 0, 0, 1, 0, 0, 0, 0]))) := by
      refine Ef.in (md := mX6_barsOf) (L := [some (.ref 65), some (.int 2), some (.int a2), some (.int 40), some (.int 1), none]) rfl (Nat.le_of_ble_eq_true rfl) rfl ?_
      refine E_aload_n rfl rfl ?_
      refine E_iload_n rfl rfl ?_
      refine E_callV (v := some (.int (-3))) (As := [.ref 65, .int 2]) (r0 := []) (cs2 := (w0.set 48 (.inl [0, 0, 0, 1, 0, 0, 0, 0]))) rfl rfl rfl (Nat.le_of_ble_eq_true rfl) rfl rfl c211_X6_wanted (by decide) rfl ?_
      refine E_istore (L2 := [some (.ref 65), some (.int 2), some (.int a2), some (.int 40), some (.int 1), some (.int (-3))]) rfl rfl ?_
      refine E_iload rfl rfl ?_
      refine E_if (t := 17) (b := false) rfl rfl (by decide) ?_
      refine E_iload rfl rfl ?_
      refine E_goto (t := 59) rfl rfl ?_
      exact E_iret rfl rfl
    refine E_callV (v := some (.int (-3))) (As := [.ref 65, .int 2, .int a2, .int 40, .int 1]) (r0 := []) (cs2 := (w0.set 48 (.inl [0, 0, 0, 1, 0, 0, 0, 0]))) rfl rfl rfl (Nat.le_of_ble_eq_true rfl) rfl rfl e29 (by decide) rfl ?_
    refine E_istore (L2 := [some (.ref 65), some (.int 2), some (.int a2), some (.int a3), some (.int 1), some (.int (-3)), none, none, none, none, none, none]) rfl rfl ?_
    refine E_iconst (x := 0) rfl (by decide) ?_
    refine E_istore (L2 := [some (.ref 65), some (.int 2), some (.int a2), some (.int a3), some (.int 1), some (.int (-3)), some (.int 0), none, none, none, none, none]) rfl rfl ?_
    refine E_iload rfl rfl ?_
    refine E_iload_n rfl rfl ?_
    refine E_ic (t := 80) (b := true) rfl rfl ((cn_ge (by decide : (0 : Int32).toInt = 0) (rfl : (a2).toInt = (a2).toInt)).trans (decide_eq_true (by omega))) ?_
    refine E_iload rfl rfl ?_
    refine E_if (t := 92) (b := false) rfl rfl (by decide) ?_
    refine E_aload_n rfl rfl ?_
    refine E_iload rfl rfl ?_
    refine E_callV (v := some (.int (-13))) (As := [.ref 65, .int (-3)]) (r0 := []) (cs2 := ((w0.set 48 (.inl [0, 0, 0, 1, 0, 0, 0, 0])).set 66 (.inl [0, 0, 0, 1, 0, 0, 0, 0]))) rfl rfl rfl (Nat.le_of_ble_eq_true rfl) rfl rfl c258_X6_noTen (by decide) (by simp only [List.length_set]) ?_
    exact E_iret rfl rfl, (by simp only [List.length_set]; rfl), (by simp only [List.length_set]; rfl), ((ab_szs rfl).trans ((ab_szs rfl).trans rfl)), fun _ => rfl⟩
theorem f_costs_50 (a2 a3 : Int32) (ha2l : (1 : Int) ≤ a2.toInt) (ha3l : (0 : Int) ≤ a3.toInt) (ha3h : a3.toInt ≤ 7) : p1_P 6 100 4 188 [.ref 0, .int 2, .int a2, .int a3, .int 1] [.ref 65, .int 2, .int a2, .int a3, .int 1] :=
  ⟨(-13), (w0.set 48 (.inl [0, 0, 0, 1, 0, 0, 0, 0])), ((w0.set 48 (.inl [0, 0, 0, 1, 0, 0, 0, 0])).set 66 (.inl [0, 0, 0, 1, 0, 0, 0, 0])), by
    refine Ef.in (md := mX5_costs) (L := [some (.ref 0), some (.int 2), some (.int a2), some (.int a3), some (.int 1), none, none, none, none]) rfl (Nat.le_of_ble_eq_true rfl) rfl ?_
    refine E_iload_n rfl rfl ?_
    have e2 : Ev ab_Z0 1 47 [.int a3] w0 (some (.int 1), w0) := by
      refine Ef.in (md := mX4_isWish) (L := [some (.int a3)]) rfl (Nat.le_of_ble_eq_true rfl) rfl ?_
      refine E_iload_n rfl rfl ?_
      refine E_if (t := 14) (b := false) rfl rfl ((cn_lt (rfl : (a3).toInt = (a3).toInt) (by decide : (0 : Int32).toInt = 0)).trans (decide_eq_false (by omega))) ?_
      refine E_iload_n rfl rfl ?_
      refine E_bipush (x := 8) rfl (by decide) ?_
      refine E_ic (t := 14) (b := false) rfl rfl ((cn_ge (rfl : (a3).toInt = (a3).toInt) (by decide : (8 : Int32).toInt = 8)).trans (decide_eq_false (by omega))) ?_
      refine E_iconst (x := 1) rfl (by decide) ?_
      refine E_goto (t := 15) rfl rfl ?_
      exact E_iret rfl rfl
    refine E_callS (v := some (.int 1)) (As := [.int a3]) (r0 := []) (cs2 := w0) rfl rfl rfl (Nat.le_of_ble_eq_true rfl) rfl e2 (by decide) rfl ?_
    refine E_if (t := 31) (b := false) rfl rfl (by decide) ?_
    refine E_aload_n rfl rfl ?_
    refine E_iload_n rfl rfl ?_
    refine E_iload_n rfl rfl ?_
    refine E_bipush (x := 40) rfl (by decide) ?_
    refine E_iload rfl rfl ?_
    refine E_callS (v := some (.int 1)) (As := [.int 1]) (r0 := [.int 40, .int a2, .int 2, .ref 0]) (cs2 := w0) rfl rfl rfl (Nat.le_of_ble_eq_true rfl) rfl c239_X5_isOneOfTwo (by decide) rfl ?_
    refine E_if (t := 24) (b := true) rfl rfl (by decide) ?_
    refine E_iconst (x := 0) rfl (by decide) ?_
    have e22 : Ev ab_Z0 3 120 [.ref 0, .int 2, .int a2, .int 40, .int 0] w0 (some (.int 3), w0) := by
      refine Ef.in (md := mX5_whyNoTwos) (L := [some (.ref 0), some (.int 2), some (.int a2), some (.int 40), some (.int 0), none]) rfl (Nat.le_of_ble_eq_true rfl) rfl ?_
      refine E_aload_n rfl rfl ?_
      refine E_iload_n rfl rfl ?_
      refine E_callV (v := some (.int 3)) (As := [.ref 0, .int 2]) (r0 := []) (cs2 := w0) rfl rfl rfl (Nat.le_of_ble_eq_true rfl) rfl rfl c40_X5_whyNoRow (by decide) rfl ?_
      refine E_istore (L2 := [some (.ref 0), some (.int 2), some (.int a2), some (.int 40), some (.int 0), some (.int 3)]) rfl rfl ?_
      refine E_iload rfl rfl ?_
      refine E_if (t := 15) (b := false) rfl rfl (by decide) ?_
      refine E_iload rfl rfl ?_
      exact E_iret rfl rfl
    refine E_callV (v := some (.int 3)) (As := [.ref 0, .int 2, .int a2, .int 40, .int 0]) (r0 := []) (cs2 := w0) rfl rfl rfl (Nat.le_of_ble_eq_true rfl) rfl rfl e22 (by decide) rfl ?_
    refine E_goto (t := 32) rfl rfl ?_
    refine E_istore (L2 := [some (.ref 0), some (.int 2), some (.int a2), some (.int a3), some (.int 1), some (.int 3), none, none, none]) rfl rfl ?_
    refine E_iload rfl rfl ?_
    refine E_if (t := 56) (b := true) rfl rfl (by decide) ?_
    refine E_iload rfl rfl ?_
    refine E_if (t := 71) (b := false) rfl rfl (by decide) ?_
    refine E_aload_n rfl rfl ?_
    refine E_iload rfl rfl ?_
    refine E_callV (v := some (.int (-3))) (As := [.ref 0, .int 3]) (r0 := []) (cs2 := (w0.set 48 (.inl [0, 0, 0, 1, 0, 0, 0, 0]))) rfl rfl rfl (Nat.le_of_ble_eq_true rfl) rfl rfl c32_X5_refuse (by decide) (by simp only [List.length_set]) ?_
    refine E_bipush (x := 10) rfl (by decide) ?_
    refine E_isub (z := (-13)) rfl (by decide) ?_
    exact E_iret rfl rfl, by
    refine Ef.in (md := mX6_costs) (L := [some (.ref 65), some (.int 2), some (.int a2), some (.int a3), some (.int 1), none, none, none, none, none, none, none]) rfl (Nat.le_of_ble_eq_true rfl) rfl ?_
    refine E_aload_n rfl rfl ?_
    refine E_iload_n rfl rfl ?_
    refine E_iconst (x := 0) rfl (by decide) ?_
    refine E_bipush (x := 7) rfl (by decide) ?_
    have e5 : Ev ab_Z0 1 134 [.ref 65, .int a3, .int 0, .int 7] (w0.set 48 (.inl [0, 0, 0, 1, 0, 0, 0, 0])) (some (.int 1), (w0.set 48 (.inl [0, 0, 0, 1, 0, 0, 0, 0]))) := by
      refine Ef.in (md := mX6_isFrom) (L := [some (.ref 65), some (.int a3), some (.int 0), some (.int 7)]) rfl (Nat.le_of_ble_eq_true rfl) rfl ?_
      refine E_iload_n rfl rfl ?_
      refine E_iload_n rfl rfl ?_
      refine E_ic (t := 14) (b := false) rfl rfl ((cn_lt (rfl : (a3).toInt = (a3).toInt) (by decide : (0 : Int32).toInt = 0)).trans (decide_eq_false (by omega))) ?_
      refine E_iload_n rfl rfl ?_
      refine E_iload_n rfl rfl ?_
      refine E_ic (t := 14) (b := false) rfl rfl ((cn_gt (rfl : (a3).toInt = (a3).toInt) (by decide : (7 : Int32).toInt = 7)).trans (decide_eq_false (by omega))) ?_
      refine E_iconst (x := 1) rfl (by decide) ?_
      refine E_goto (t := 15) rfl rfl ?_
      exact E_iret rfl rfl
    refine E_callV (v := some (.int 1)) (As := [.ref 65, .int a3, .int 0, .int 7]) (r0 := []) (cs2 := (w0.set 48 (.inl [0, 0, 0, 1, 0, 0, 0, 0]))) rfl rfl rfl (Nat.le_of_ble_eq_true rfl) rfl rfl e5 (by decide) rfl ?_
    refine E_if (t := 15) (b := true) rfl rfl (by decide) ?_
    refine E_aload_n rfl rfl ?_
    refine E_iload_n rfl rfl ?_
    refine E_iload_n rfl rfl ?_
    refine E_bipush (x := 40) rfl (by decide) ?_
    refine E_iload rfl rfl ?_
    refine E_if (t := 31) (b := false) rfl rfl (by decide) ?_
    refine E_iload rfl rfl ?_
    refine E_iconst (x := 1) rfl (by decide) ?_
    refine E_ic (t := 35) (b := false) rfl rfl (by decide) ?_
    refine E_iconst (x := 1) rfl (by decide) ?_
    refine E_goto (t := 36) rfl rfl ?_
    have e29 : Ev ab_Z0 3 186 [.ref 65, .int 2, .int a2, .int 40, .int 1] (w0.set 48 (.inl [0, 0, 0, 1, 0, 0, 0, 0])) (some (.int (-3)), (w0.set 48 (.inl [0, 0, 0, 1, 0, 0, 0, 0]))) := by
      refine Ef.in (md := mX6_barsOf) (L := [some (.ref 65), some (.int 2), some (.int a2), some (.int 40), some (.int 1), none]) rfl (Nat.le_of_ble_eq_true rfl) rfl ?_
      refine E_aload_n rfl rfl ?_
      refine E_iload_n rfl rfl ?_
      refine E_callV (v := some (.int (-3))) (As := [.ref 65, .int 2]) (r0 := []) (cs2 := (w0.set 48 (.inl [0, 0, 0, 1, 0, 0, 0, 0]))) rfl rfl rfl (Nat.le_of_ble_eq_true rfl) rfl rfl c211_X6_wanted (by decide) rfl ?_
      refine E_istore (L2 := [some (.ref 65), some (.int 2), some (.int a2), some (.int 40), some (.int 1), some (.int (-3))]) rfl rfl ?_
      refine E_iload rfl rfl ?_
      refine E_if (t := 17) (b := false) rfl rfl (by decide) ?_
      refine E_iload rfl rfl ?_
      refine E_goto (t := 59) rfl rfl ?_
      exact E_iret rfl rfl
    refine E_callV (v := some (.int (-3))) (As := [.ref 65, .int 2, .int a2, .int 40, .int 1]) (r0 := []) (cs2 := (w0.set 48 (.inl [0, 0, 0, 1, 0, 0, 0, 0]))) rfl rfl rfl (Nat.le_of_ble_eq_true rfl) rfl rfl e29 (by decide) rfl ?_
    refine E_istore (L2 := [some (.ref 65), some (.int 2), some (.int a2), some (.int a3), some (.int 1), some (.int (-3)), none, none, none, none, none, none]) rfl rfl ?_
    refine E_iconst (x := 0) rfl (by decide) ?_
    refine E_istore (L2 := [some (.ref 65), some (.int 2), some (.int a2), some (.int a3), some (.int 1), some (.int (-3)), some (.int 0), none, none, none, none, none]) rfl rfl ?_
    refine E_iload rfl rfl ?_
    refine E_iload_n rfl rfl ?_
    refine E_ic (t := 80) (b := false) rfl rfl ((cn_ge (by decide : (0 : Int32).toInt = 0) (rfl : (a2).toInt = (a2).toInt)).trans (decide_eq_false (by omega))) ?_
    refine E_iload rfl rfl ?_
    refine E_if (t := 80) (b := true) rfl rfl (by decide) ?_
    refine E_iload rfl rfl ?_
    refine E_if (t := 92) (b := false) rfl rfl (by decide) ?_
    refine E_aload_n rfl rfl ?_
    refine E_iload rfl rfl ?_
    refine E_callV (v := some (.int (-13))) (As := [.ref 65, .int (-3)]) (r0 := []) (cs2 := ((w0.set 48 (.inl [0, 0, 0, 1, 0, 0, 0, 0])).set 66 (.inl [0, 0, 0, 1, 0, 0, 0, 0]))) rfl rfl rfl (Nat.le_of_ble_eq_true rfl) rfl rfl c258_X6_noTen (by decide) (by simp only [List.length_set]) ?_
    exact E_iret rfl rfl, (by simp only [List.length_set]; rfl), (by simp only [List.length_set]; rfl), ((ab_szs rfl).trans ((ab_szs rfl).trans rfl)), fun _ => rfl⟩
theorem f_costs_51 (a2 a3 : Int32) (ha2h : a2.toInt ≤ 0) (ha3l : (0 : Int) ≤ a3.toInt) (ha3h : a3.toInt ≤ 7) : p1_P 6 100 4 188 [.ref 0, .int 3, .int a2, .int a3, .int 1] [.ref 65, .int 3, .int a2, .int a3, .int 1] :=
  ⟨(-13), (w0.set 48 (.inl [0, 0, 0, 1, 0, 0, 0, 0])), ((w0.set 48 (.inl [0, 0, 0, 1, 0, 0, 0, 0])).set 66 (.inl [0, 0, 0, 1, 0, 0, 0, 0])), by
    refine Ef.in (md := mX5_costs) (L := [some (.ref 0), some (.int 3), some (.int a2), some (.int a3), some (.int 1), none, none, none, none]) rfl (Nat.le_of_ble_eq_true rfl) rfl ?_
    refine E_iload_n rfl rfl ?_
    have e2 : Ev ab_Z0 1 47 [.int a3] w0 (some (.int 1), w0) := by
      refine Ef.in (md := mX4_isWish) (L := [some (.int a3)]) rfl (Nat.le_of_ble_eq_true rfl) rfl ?_
      refine E_iload_n rfl rfl ?_
      refine E_if (t := 14) (b := false) rfl rfl ((cn_lt (rfl : (a3).toInt = (a3).toInt) (by decide : (0 : Int32).toInt = 0)).trans (decide_eq_false (by omega))) ?_
      refine E_iload_n rfl rfl ?_
      refine E_bipush (x := 8) rfl (by decide) ?_
      refine E_ic (t := 14) (b := false) rfl rfl ((cn_ge (rfl : (a3).toInt = (a3).toInt) (by decide : (8 : Int32).toInt = 8)).trans (decide_eq_false (by omega))) ?_
      refine E_iconst (x := 1) rfl (by decide) ?_
      refine E_goto (t := 15) rfl rfl ?_
      exact E_iret rfl rfl
    refine E_callS (v := some (.int 1)) (As := [.int a3]) (r0 := []) (cs2 := w0) rfl rfl rfl (Nat.le_of_ble_eq_true rfl) rfl e2 (by decide) rfl ?_
    refine E_if (t := 31) (b := false) rfl rfl (by decide) ?_
    refine E_aload_n rfl rfl ?_
    refine E_iload_n rfl rfl ?_
    refine E_iload_n rfl rfl ?_
    refine E_bipush (x := 40) rfl (by decide) ?_
    refine E_iload rfl rfl ?_
    refine E_callS (v := some (.int 1)) (As := [.int 1]) (r0 := [.int 40, .int a2, .int 3, .ref 0]) (cs2 := w0) rfl rfl rfl (Nat.le_of_ble_eq_true rfl) rfl c239_X5_isOneOfTwo (by decide) rfl ?_
    refine E_if (t := 24) (b := true) rfl rfl (by decide) ?_
    refine E_iconst (x := 0) rfl (by decide) ?_
    have e22 : Ev ab_Z0 3 120 [.ref 0, .int 3, .int a2, .int 40, .int 0] w0 (some (.int 3), w0) := by
      refine Ef.in (md := mX5_whyNoTwos) (L := [some (.ref 0), some (.int 3), some (.int a2), some (.int 40), some (.int 0), none]) rfl (Nat.le_of_ble_eq_true rfl) rfl ?_
      refine E_aload_n rfl rfl ?_
      refine E_iload_n rfl rfl ?_
      refine E_callV (v := some (.int 3)) (As := [.ref 0, .int 3]) (r0 := []) (cs2 := w0) rfl rfl rfl (Nat.le_of_ble_eq_true rfl) rfl rfl c44_X5_whyNoRow (by decide) rfl ?_
      refine E_istore (L2 := [some (.ref 0), some (.int 3), some (.int a2), some (.int 40), some (.int 0), some (.int 3)]) rfl rfl ?_
      refine E_iload rfl rfl ?_
      refine E_if (t := 15) (b := false) rfl rfl (by decide) ?_
      refine E_iload rfl rfl ?_
      exact E_iret rfl rfl
    refine E_callV (v := some (.int 3)) (As := [.ref 0, .int 3, .int a2, .int 40, .int 0]) (r0 := []) (cs2 := w0) rfl rfl rfl (Nat.le_of_ble_eq_true rfl) rfl rfl e22 (by decide) rfl ?_
    refine E_goto (t := 32) rfl rfl ?_
    refine E_istore (L2 := [some (.ref 0), some (.int 3), some (.int a2), some (.int a3), some (.int 1), some (.int 3), none, none, none]) rfl rfl ?_
    refine E_iload rfl rfl ?_
    refine E_if (t := 56) (b := true) rfl rfl (by decide) ?_
    refine E_iload rfl rfl ?_
    refine E_if (t := 71) (b := false) rfl rfl (by decide) ?_
    refine E_aload_n rfl rfl ?_
    refine E_iload rfl rfl ?_
    refine E_callV (v := some (.int (-3))) (As := [.ref 0, .int 3]) (r0 := []) (cs2 := (w0.set 48 (.inl [0, 0, 0, 1, 0, 0, 0, 0]))) rfl rfl rfl (Nat.le_of_ble_eq_true rfl) rfl rfl c32_X5_refuse (by decide) (by simp only [List.length_set]) ?_
    refine E_bipush (x := 10) rfl (by decide) ?_
    refine E_isub (z := (-13)) rfl (by decide) ?_
    exact E_iret rfl rfl, by
    refine Ef.in (md := mX6_costs) (L := [some (.ref 65), some (.int 3), some (.int a2), some (.int a3), some (.int 1), none, none, none, none, none, none, none]) rfl (Nat.le_of_ble_eq_true rfl) rfl ?_
    refine E_aload_n rfl rfl ?_
    refine E_iload_n rfl rfl ?_
    refine E_iconst (x := 0) rfl (by decide) ?_
    refine E_bipush (x := 7) rfl (by decide) ?_
    have e5 : Ev ab_Z0 1 134 [.ref 65, .int a3, .int 0, .int 7] (w0.set 48 (.inl [0, 0, 0, 1, 0, 0, 0, 0])) (some (.int 1), (w0.set 48 (.inl [0, 0, 0, 1, 0, 0, 0, 0]))) := by
      refine Ef.in (md := mX6_isFrom) (L := [some (.ref 65), some (.int a3), some (.int 0), some (.int 7)]) rfl (Nat.le_of_ble_eq_true rfl) rfl ?_
      refine E_iload_n rfl rfl ?_
      refine E_iload_n rfl rfl ?_
      refine E_ic (t := 14) (b := false) rfl rfl ((cn_lt (rfl : (a3).toInt = (a3).toInt) (by decide : (0 : Int32).toInt = 0)).trans (decide_eq_false (by omega))) ?_
      refine E_iload_n rfl rfl ?_
      refine E_iload_n rfl rfl ?_
      refine E_ic (t := 14) (b := false) rfl rfl ((cn_gt (rfl : (a3).toInt = (a3).toInt) (by decide : (7 : Int32).toInt = 7)).trans (decide_eq_false (by omega))) ?_
      refine E_iconst (x := 1) rfl (by decide) ?_
      refine E_goto (t := 15) rfl rfl ?_
      exact E_iret rfl rfl
    refine E_callV (v := some (.int 1)) (As := [.ref 65, .int a3, .int 0, .int 7]) (r0 := []) (cs2 := (w0.set 48 (.inl [0, 0, 0, 1, 0, 0, 0, 0]))) rfl rfl rfl (Nat.le_of_ble_eq_true rfl) rfl rfl e5 (by decide) rfl ?_
    refine E_if (t := 15) (b := true) rfl rfl (by decide) ?_
    refine E_aload_n rfl rfl ?_
    refine E_iload_n rfl rfl ?_
    refine E_iload_n rfl rfl ?_
    refine E_bipush (x := 40) rfl (by decide) ?_
    refine E_iload rfl rfl ?_
    refine E_if (t := 31) (b := false) rfl rfl (by decide) ?_
    refine E_iload rfl rfl ?_
    refine E_iconst (x := 1) rfl (by decide) ?_
    refine E_ic (t := 35) (b := false) rfl rfl (by decide) ?_
    refine E_iconst (x := 1) rfl (by decide) ?_
    refine E_goto (t := 36) rfl rfl ?_
    have e29 : Ev ab_Z0 3 186 [.ref 65, .int 3, .int a2, .int 40, .int 1] (w0.set 48 (.inl [0, 0, 0, 1, 0, 0, 0, 0])) (some (.int (-3)), (w0.set 48 (.inl [0, 0, 0, 1, 0, 0, 0, 0]))) := by
      refine Ef.in (md := mX6_barsOf) (L := [some (.ref 65), some (.int 3), some (.int a2), some (.int 40), some (.int 1), none]) rfl (Nat.le_of_ble_eq_true rfl) rfl ?_
      refine E_aload_n rfl rfl ?_
      refine E_iload_n rfl rfl ?_
      refine E_callV (v := some (.int (-3))) (As := [.ref 65, .int 3]) (r0 := []) (cs2 := (w0.set 48 (.inl [0, 0, 0, 1, 0, 0, 0, 0]))) rfl rfl rfl (Nat.le_of_ble_eq_true rfl) rfl rfl c214_X6_wanted (by decide) rfl ?_
      refine E_istore (L2 := [some (.ref 65), some (.int 3), some (.int a2), some (.int 40), some (.int 1), some (.int (-3))]) rfl rfl ?_
      refine E_iload rfl rfl ?_
      refine E_if (t := 17) (b := false) rfl rfl (by decide) ?_
      refine E_iload rfl rfl ?_
      refine E_goto (t := 59) rfl rfl ?_
      exact E_iret rfl rfl
    refine E_callV (v := some (.int (-3))) (As := [.ref 65, .int 3, .int a2, .int 40, .int 1]) (r0 := []) (cs2 := (w0.set 48 (.inl [0, 0, 0, 1, 0, 0, 0, 0]))) rfl rfl rfl (Nat.le_of_ble_eq_true rfl) rfl rfl e29 (by decide) rfl ?_
    refine E_istore (L2 := [some (.ref 65), some (.int 3), some (.int a2), some (.int a3), some (.int 1), some (.int (-3)), none, none, none, none, none, none]) rfl rfl ?_
    refine E_iconst (x := 0) rfl (by decide) ?_
    refine E_istore (L2 := [some (.ref 65), some (.int 3), some (.int a2), some (.int a3), some (.int 1), some (.int (-3)), some (.int 0), none, none, none, none, none]) rfl rfl ?_
    refine E_iload rfl rfl ?_
    refine E_iload_n rfl rfl ?_
    refine E_ic (t := 80) (b := true) rfl rfl ((cn_ge (by decide : (0 : Int32).toInt = 0) (rfl : (a2).toInt = (a2).toInt)).trans (decide_eq_true (by omega))) ?_
    refine E_iload rfl rfl ?_
    refine E_if (t := 92) (b := false) rfl rfl (by decide) ?_
    refine E_aload_n rfl rfl ?_
    refine E_iload rfl rfl ?_
    refine E_callV (v := some (.int (-13))) (As := [.ref 65, .int (-3)]) (r0 := []) (cs2 := ((w0.set 48 (.inl [0, 0, 0, 1, 0, 0, 0, 0])).set 66 (.inl [0, 0, 0, 1, 0, 0, 0, 0]))) rfl rfl rfl (Nat.le_of_ble_eq_true rfl) rfl rfl c258_X6_noTen (by decide) (by simp only [List.length_set]) ?_
    exact E_iret rfl rfl, (by simp only [List.length_set]; rfl), (by simp only [List.length_set]; rfl), ((ab_szs rfl).trans ((ab_szs rfl).trans rfl)), fun _ => rfl⟩
theorem f_costs_52 (a2 a3 : Int32) (ha2l : (1 : Int) ≤ a2.toInt) (ha3l : (0 : Int) ≤ a3.toInt) (ha3h : a3.toInt ≤ 7) : p1_P 6 100 4 188 [.ref 0, .int 3, .int a2, .int a3, .int 1] [.ref 65, .int 3, .int a2, .int a3, .int 1] :=
  ⟨(-13), (w0.set 48 (.inl [0, 0, 0, 1, 0, 0, 0, 0])), ((w0.set 48 (.inl [0, 0, 0, 1, 0, 0, 0, 0])).set 66 (.inl [0, 0, 0, 1, 0, 0, 0, 0])), by
    refine Ef.in (md := mX5_costs) (L := [some (.ref 0), some (.int 3), some (.int a2), some (.int a3), some (.int 1), none, none, none, none]) rfl (Nat.le_of_ble_eq_true rfl) rfl ?_
    refine E_iload_n rfl rfl ?_
    have e2 : Ev ab_Z0 1 47 [.int a3] w0 (some (.int 1), w0) := by
      refine Ef.in (md := mX4_isWish) (L := [some (.int a3)]) rfl (Nat.le_of_ble_eq_true rfl) rfl ?_
      refine E_iload_n rfl rfl ?_
      refine E_if (t := 14) (b := false) rfl rfl ((cn_lt (rfl : (a3).toInt = (a3).toInt) (by decide : (0 : Int32).toInt = 0)).trans (decide_eq_false (by omega))) ?_
      refine E_iload_n rfl rfl ?_
      refine E_bipush (x := 8) rfl (by decide) ?_
      refine E_ic (t := 14) (b := false) rfl rfl ((cn_ge (rfl : (a3).toInt = (a3).toInt) (by decide : (8 : Int32).toInt = 8)).trans (decide_eq_false (by omega))) ?_
      refine E_iconst (x := 1) rfl (by decide) ?_
      refine E_goto (t := 15) rfl rfl ?_
      exact E_iret rfl rfl
    refine E_callS (v := some (.int 1)) (As := [.int a3]) (r0 := []) (cs2 := w0) rfl rfl rfl (Nat.le_of_ble_eq_true rfl) rfl e2 (by decide) rfl ?_
    refine E_if (t := 31) (b := false) rfl rfl (by decide) ?_
    refine E_aload_n rfl rfl ?_
    refine E_iload_n rfl rfl ?_
    refine E_iload_n rfl rfl ?_
    refine E_bipush (x := 40) rfl (by decide) ?_
    refine E_iload rfl rfl ?_
    refine E_callS (v := some (.int 1)) (As := [.int 1]) (r0 := [.int 40, .int a2, .int 3, .ref 0]) (cs2 := w0) rfl rfl rfl (Nat.le_of_ble_eq_true rfl) rfl c239_X5_isOneOfTwo (by decide) rfl ?_
    refine E_if (t := 24) (b := true) rfl rfl (by decide) ?_
    refine E_iconst (x := 0) rfl (by decide) ?_
    have e22 : Ev ab_Z0 3 120 [.ref 0, .int 3, .int a2, .int 40, .int 0] w0 (some (.int 3), w0) := by
      refine Ef.in (md := mX5_whyNoTwos) (L := [some (.ref 0), some (.int 3), some (.int a2), some (.int 40), some (.int 0), none]) rfl (Nat.le_of_ble_eq_true rfl) rfl ?_
      refine E_aload_n rfl rfl ?_
      refine E_iload_n rfl rfl ?_
      refine E_callV (v := some (.int 3)) (As := [.ref 0, .int 3]) (r0 := []) (cs2 := w0) rfl rfl rfl (Nat.le_of_ble_eq_true rfl) rfl rfl c44_X5_whyNoRow (by decide) rfl ?_
      refine E_istore (L2 := [some (.ref 0), some (.int 3), some (.int a2), some (.int 40), some (.int 0), some (.int 3)]) rfl rfl ?_
      refine E_iload rfl rfl ?_
      refine E_if (t := 15) (b := false) rfl rfl (by decide) ?_
      refine E_iload rfl rfl ?_
      exact E_iret rfl rfl
    refine E_callV (v := some (.int 3)) (As := [.ref 0, .int 3, .int a2, .int 40, .int 0]) (r0 := []) (cs2 := w0) rfl rfl rfl (Nat.le_of_ble_eq_true rfl) rfl rfl e22 (by decide) rfl ?_
    refine E_goto (t := 32) rfl rfl ?_
    refine E_istore (L2 := [some (.ref 0), some (.int 3), some (.int a2), some (.int a3), some (.int 1), some (.int 3), none, none, none]) rfl rfl ?_
    refine E_iload rfl rfl ?_
    refine E_if (t := 56) (b := true) rfl rfl (by decide) ?_
    refine E_iload rfl rfl ?_
    refine E_if (t := 71) (b := false) rfl rfl (by decide) ?_
    refine E_aload_n rfl rfl ?_
    refine E_iload rfl rfl ?_
    refine E_callV (v := some (.int (-3))) (As := [.ref 0, .int 3]) (r0 := []) (cs2 := (w0.set 48 (.inl [0, 0, 0, 1, 0, 0, 0, 0]))) rfl rfl rfl (Nat.le_of_ble_eq_true rfl) rfl rfl c32_X5_refuse (by decide) (by simp only [List.length_set]) ?_
    refine E_bipush (x := 10) rfl (by decide) ?_
    refine E_isub (z := (-13)) rfl (by decide) ?_
    exact E_iret rfl rfl, by
    refine Ef.in (md := mX6_costs) (L := [some (.ref 65), some (.int 3), some (.int a2), some (.int a3), some (.int 1), none, none, none, none, none, none, none]) rfl (Nat.le_of_ble_eq_true rfl) rfl ?_
    refine E_aload_n rfl rfl ?_
    refine E_iload_n rfl rfl ?_
    refine E_iconst (x := 0) rfl (by decide) ?_
    refine E_bipush (x := 7) rfl (by decide) ?_
    have e5 : Ev ab_Z0 1 134 [.ref 65, .int a3, .int 0, .int 7] (w0.set 48 (.inl [0, 0, 0, 1, 0, 0, 0, 0])) (some (.int 1), (w0.set 48 (.inl [0, 0, 0, 1, 0, 0, 0, 0]))) := by
      refine Ef.in (md := mX6_isFrom) (L := [some (.ref 65), some (.int a3), some (.int 0), some (.int 7)]) rfl (Nat.le_of_ble_eq_true rfl) rfl ?_
      refine E_iload_n rfl rfl ?_
      refine E_iload_n rfl rfl ?_
      refine E_ic (t := 14) (b := false) rfl rfl ((cn_lt (rfl : (a3).toInt = (a3).toInt) (by decide : (0 : Int32).toInt = 0)).trans (decide_eq_false (by omega))) ?_
      refine E_iload_n rfl rfl ?_
      refine E_iload_n rfl rfl ?_
      refine E_ic (t := 14) (b := false) rfl rfl ((cn_gt (rfl : (a3).toInt = (a3).toInt) (by decide : (7 : Int32).toInt = 7)).trans (decide_eq_false (by omega))) ?_
      refine E_iconst (x := 1) rfl (by decide) ?_
      refine E_goto (t := 15) rfl rfl ?_
      exact E_iret rfl rfl
    refine E_callV (v := some (.int 1)) (As := [.ref 65, .int a3, .int 0, .int 7]) (r0 := []) (cs2 := (w0.set 48 (.inl [0, 0, 0, 1, 0, 0, 0, 0]))) rfl rfl rfl (Nat.le_of_ble_eq_true rfl) rfl rfl e5 (by decide) rfl ?_
    refine E_if (t := 15) (b := true) rfl rfl (by decide) ?_
    refine E_aload_n rfl rfl ?_
    refine E_iload_n rfl rfl ?_
    refine E_iload_n rfl rfl ?_
    refine E_bipush (x := 40) rfl (by decide) ?_
    refine E_iload rfl rfl ?_
    refine E_if (t := 31) (b := false) rfl rfl (by decide) ?_
    refine E_iload rfl rfl ?_
    refine E_iconst (x := 1) rfl (by decide) ?_
    refine E_ic (t := 35) (b := false) rfl rfl (by decide) ?_
    refine E_iconst (x := 1) rfl (by decide) ?_
    refine E_goto (t := 36) rfl rfl ?_
    have e29 : Ev ab_Z0 3 186 [.ref 65, .int 3, .int a2, .int 40, .int 1] (w0.set 48 (.inl [0, 0, 0, 1, 0, 0, 0, 0])) (some (.int (-3)), (w0.set 48 (.inl [0, 0, 0, 1, 0, 0, 0, 0]))) := by
      refine Ef.in (md := mX6_barsOf) (L := [some (.ref 65), some (.int 3), some (.int a2), some (.int 40), some (.int 1), none]) rfl (Nat.le_of_ble_eq_true rfl) rfl ?_
      refine E_aload_n rfl rfl ?_
      refine E_iload_n rfl rfl ?_
      refine E_callV (v := some (.int (-3))) (As := [.ref 65, .int 3]) (r0 := []) (cs2 := (w0.set 48 (.inl [0, 0, 0, 1, 0, 0, 0, 0]))) rfl rfl rfl (Nat.le_of_ble_eq_true rfl) rfl rfl c214_X6_wanted (by decide) rfl ?_
      refine E_istore (L2 := [some (.ref 65), some (.int 3), some (.int a2), some (.int 40), some (.int 1), some (.int (-3))]) rfl rfl ?_
      refine E_iload rfl rfl ?_
      refine E_if (t := 17) (b := false) rfl rfl (by decide) ?_
      refine E_iload rfl rfl ?_
      refine E_goto (t := 59) rfl rfl ?_
      exact E_iret rfl rfl
    refine E_callV (v := some (.int (-3))) (As := [.ref 65, .int 3, .int a2, .int 40, .int 1]) (r0 := []) (cs2 := (w0.set 48 (.inl [0, 0, 0, 1, 0, 0, 0, 0]))) rfl rfl rfl (Nat.le_of_ble_eq_true rfl) rfl rfl e29 (by decide) rfl ?_
    refine E_istore (L2 := [some (.ref 65), some (.int 3), some (.int a2), some (.int a3), some (.int 1), some (.int (-3)), none, none, none, none, none, none]) rfl rfl ?_
    refine E_iconst (x := 0) rfl (by decide) ?_
    refine E_istore (L2 := [some (.ref 65), some (.int 3), some (.int a2), some (.int a3), some (.int 1), some (.int (-3)), some (.int 0), none, none, none, none, none]) rfl rfl ?_
    refine E_iload rfl rfl ?_
    refine E_iload_n rfl rfl ?_
    refine E_ic (t := 80) (b := false) rfl rfl ((cn_ge (by decide : (0 : Int32).toInt = 0) (rfl : (a2).toInt = (a2).toInt)).trans (decide_eq_false (by omega))) ?_
    refine E_iload rfl rfl ?_
    refine E_if (t := 80) (b := true) rfl rfl (by decide) ?_
    refine E_iload rfl rfl ?_
    refine E_if (t := 92) (b := false) rfl rfl (by decide) ?_
    refine E_aload_n rfl rfl ?_
    refine E_iload rfl rfl ?_
    refine E_callV (v := some (.int (-13))) (As := [.ref 65, .int (-3)]) (r0 := []) (cs2 := ((w0.set 48 (.inl [0, 0, 0, 1, 0, 0, 0, 0])).set 66 (.inl [0, 0, 0, 1, 0, 0, 0, 0]))) rfl rfl rfl (Nat.le_of_ble_eq_true rfl) rfl rfl c258_X6_noTen (by decide) (by simp only [List.length_set]) ?_
    exact E_iret rfl rfl, (by simp only [List.length_set]; rfl), (by simp only [List.length_set]; rfl), ((ab_szs rfl).trans ((ab_szs rfl).trans rfl)), fun _ => rfl⟩
theorem f_costs_53 (a2 a3 : Int32) (ha2h : a2.toInt ≤ 0) (ha3l : (0 : Int) ≤ a3.toInt) (ha3h : a3.toInt ≤ 7) : p1_P 6 100 4 188 [.ref 0, .int 4, .int a2, .int a3, .int 1] [.ref 65, .int 4, .int a2, .int a3, .int 1] :=
  ⟨(-13), (w0.set 48 (.inl [0, 0, 0, 1, 0, 0, 0, 0])), ((w0.set 48 (.inl [0, 0, 0, 1, 0, 0, 0, 0])).set 66 (.inl [0, 0, 0, 1, 0, 0, 0, 0])), by
    refine Ef.in (md := mX5_costs) (L := [some (.ref 0), some (.int 4), some (.int a2), some (.int a3), some (.int 1), none, none, none, none]) rfl (Nat.le_of_ble_eq_true rfl) rfl ?_
    refine E_iload_n rfl rfl ?_
    have e2 : Ev ab_Z0 1 47 [.int a3] w0 (some (.int 1), w0) := by
      refine Ef.in (md := mX4_isWish) (L := [some (.int a3)]) rfl (Nat.le_of_ble_eq_true rfl) rfl ?_
      refine E_iload_n rfl rfl ?_
      refine E_if (t := 14) (b := false) rfl rfl ((cn_lt (rfl : (a3).toInt = (a3).toInt) (by decide : (0 : Int32).toInt = 0)).trans (decide_eq_false (by omega))) ?_
      refine E_iload_n rfl rfl ?_
      refine E_bipush (x := 8) rfl (by decide) ?_
      refine E_ic (t := 14) (b := false) rfl rfl ((cn_ge (rfl : (a3).toInt = (a3).toInt) (by decide : (8 : Int32).toInt = 8)).trans (decide_eq_false (by omega))) ?_
      refine E_iconst (x := 1) rfl (by decide) ?_
      refine E_goto (t := 15) rfl rfl ?_
      exact E_iret rfl rfl
    refine E_callS (v := some (.int 1)) (As := [.int a3]) (r0 := []) (cs2 := w0) rfl rfl rfl (Nat.le_of_ble_eq_true rfl) rfl e2 (by decide) rfl ?_
    refine E_if (t := 31) (b := false) rfl rfl (by decide) ?_
    refine E_aload_n rfl rfl ?_
    refine E_iload_n rfl rfl ?_
    refine E_iload_n rfl rfl ?_
    refine E_bipush (x := 40) rfl (by decide) ?_
    refine E_iload rfl rfl ?_
    refine E_callS (v := some (.int 1)) (As := [.int 1]) (r0 := [.int 40, .int a2, .int 4, .ref 0]) (cs2 := w0) rfl rfl rfl (Nat.le_of_ble_eq_true rfl) rfl c239_X5_isOneOfTwo (by decide) rfl ?_
    refine E_if (t := 24) (b := true) rfl rfl (by decide) ?_
    refine E_iconst (x := 0) rfl (by decide) ?_
    have e22 : Ev ab_Z0 3 120 [.ref 0, .int 4, .int a2, .int 40, .int 0] w0 (some (.int 3), w0) := by
      refine Ef.in (md := mX5_whyNoTwos) (L := [some (.ref 0), some (.int 4), some (.int a2), some (.int 40), some (.int 0), none]) rfl (Nat.le_of_ble_eq_true rfl) rfl ?_
      refine E_aload_n rfl rfl ?_
      refine E_iload_n rfl rfl ?_
      refine E_callV (v := some (.int 3)) (As := [.ref 0, .int 4]) (r0 := []) (cs2 := w0) rfl rfl rfl (Nat.le_of_ble_eq_true rfl) rfl rfl c48_X5_whyNoRow (by decide) rfl ?_
      refine E_istore (L2 := [some (.ref 0), some (.int 4), some (.int a2), some (.int 40), some (.int 0), some (.int 3)]) rfl rfl ?_
      refine E_iload rfl rfl ?_
      refine E_if (t := 15) (b := false) rfl rfl (by decide) ?_
      refine E_iload rfl rfl ?_
      exact E_iret rfl rfl
    refine E_callV (v := some (.int 3)) (As := [.ref 0, .int 4, .int a2, .int 40, .int 0]) (r0 := []) (cs2 := w0) rfl rfl rfl (Nat.le_of_ble_eq_true rfl) rfl rfl e22 (by decide) rfl ?_
    refine E_goto (t := 32) rfl rfl ?_
    refine E_istore (L2 := [some (.ref 0), some (.int 4), some (.int a2), some (.int a3), some (.int 1), some (.int 3), none, none, none]) rfl rfl ?_
    refine E_iload rfl rfl ?_
    refine E_if (t := 56) (b := true) rfl rfl (by decide) ?_
    refine E_iload rfl rfl ?_
    refine E_if (t := 71) (b := false) rfl rfl (by decide) ?_
    refine E_aload_n rfl rfl ?_
    refine E_iload rfl rfl ?_
    refine E_callV (v := some (.int (-3))) (As := [.ref 0, .int 3]) (r0 := []) (cs2 := (w0.set 48 (.inl [0, 0, 0, 1, 0, 0, 0, 0]))) rfl rfl rfl (Nat.le_of_ble_eq_true rfl) rfl rfl c32_X5_refuse (by decide) (by simp only [List.length_set]) ?_
    refine E_bipush (x := 10) rfl (by decide) ?_
    refine E_isub (z := (-13)) rfl (by decide) ?_
    exact E_iret rfl rfl, by
    refine Ef.in (md := mX6_costs) (L := [some (.ref 65), some (.int 4), some (.int a2), some (.int a3), some (.int 1), none, none, none, none, none, none, none]) rfl (Nat.le_of_ble_eq_true rfl) rfl ?_
    refine E_aload_n rfl rfl ?_
    refine E_iload_n rfl rfl ?_
    refine E_iconst (x := 0) rfl (by decide) ?_
    refine E_bipush (x := 7) rfl (by decide) ?_
    have e5 : Ev ab_Z0 1 134 [.ref 65, .int a3, .int 0, .int 7] (w0.set 48 (.inl [0, 0, 0, 1, 0, 0, 0, 0])) (some (.int 1), (w0.set 48 (.inl [0, 0, 0, 1, 0, 0, 0, 0]))) := by
      refine Ef.in (md := mX6_isFrom) (L := [some (.ref 65), some (.int a3), some (.int 0), some (.int 7)]) rfl (Nat.le_of_ble_eq_true rfl) rfl ?_
      refine E_iload_n rfl rfl ?_
      refine E_iload_n rfl rfl ?_
      refine E_ic (t := 14) (b := false) rfl rfl ((cn_lt (rfl : (a3).toInt = (a3).toInt) (by decide : (0 : Int32).toInt = 0)).trans (decide_eq_false (by omega))) ?_
      refine E_iload_n rfl rfl ?_
      refine E_iload_n rfl rfl ?_
      refine E_ic (t := 14) (b := false) rfl rfl ((cn_gt (rfl : (a3).toInt = (a3).toInt) (by decide : (7 : Int32).toInt = 7)).trans (decide_eq_false (by omega))) ?_
      refine E_iconst (x := 1) rfl (by decide) ?_
      refine E_goto (t := 15) rfl rfl ?_
      exact E_iret rfl rfl
    refine E_callV (v := some (.int 1)) (As := [.ref 65, .int a3, .int 0, .int 7]) (r0 := []) (cs2 := (w0.set 48 (.inl [0, 0, 0, 1, 0, 0, 0, 0]))) rfl rfl rfl (Nat.le_of_ble_eq_true rfl) rfl rfl e5 (by decide) rfl ?_
    refine E_if (t := 15) (b := true) rfl rfl (by decide) ?_
    refine E_aload_n rfl rfl ?_
    refine E_iload_n rfl rfl ?_
    refine E_iload_n rfl rfl ?_
    refine E_bipush (x := 40) rfl (by decide) ?_
    refine E_iload rfl rfl ?_
    refine E_if (t := 31) (b := false) rfl rfl (by decide) ?_
    refine E_iload rfl rfl ?_
    refine E_iconst (x := 1) rfl (by decide) ?_
    refine E_ic (t := 35) (b := false) rfl rfl (by decide) ?_
    refine E_iconst (x := 1) rfl (by decide) ?_
    refine E_goto (t := 36) rfl rfl ?_
    have e29 : Ev ab_Z0 3 186 [.ref 65, .int 4, .int a2, .int 40, .int 1] (w0.set 48 (.inl [0, 0, 0, 1, 0, 0, 0, 0])) (some (.int (-3)), (w0.set 48 (.inl [0, 0, 0, 1, 0, 0, 0, 0]))) := by
      refine Ef.in (md := mX6_barsOf) (L := [some (.ref 65), some (.int 4), some (.int a2), some (.int 40), some (.int 1), none]) rfl (Nat.le_of_ble_eq_true rfl) rfl ?_
      refine E_aload_n rfl rfl ?_
      refine E_iload_n rfl rfl ?_
      refine E_callV (v := some (.int (-3))) (As := [.ref 65, .int 4]) (r0 := []) (cs2 := (w0.set 48 (.inl [0, 0, 0, 1, 0, 0, 0, 0]))) rfl rfl rfl (Nat.le_of_ble_eq_true rfl) rfl rfl c217_X6_wanted (by decide) rfl ?_
      refine E_istore (L2 := [some (.ref 65), some (.int 4), some (.int a2), some (.int 40), some (.int 1), some (.int (-3))]) rfl rfl ?_
      refine E_iload rfl rfl ?_
      refine E_if (t := 17) (b := false) rfl rfl (by decide) ?_
      refine E_iload rfl rfl ?_
      refine E_goto (t := 59) rfl rfl ?_
      exact E_iret rfl rfl
    refine E_callV (v := some (.int (-3))) (As := [.ref 65, .int 4, .int a2, .int 40, .int 1]) (r0 := []) (cs2 := (w0.set 48 (.inl [0, 0, 0, 1, 0, 0, 0, 0]))) rfl rfl rfl (Nat.le_of_ble_eq_true rfl) rfl rfl e29 (by decide) rfl ?_
    refine E_istore (L2 := [some (.ref 65), some (.int 4), some (.int a2), some (.int a3), some (.int 1), some (.int (-3)), none, none, none, none, none, none]) rfl rfl ?_
    refine E_iconst (x := 0) rfl (by decide) ?_
    refine E_istore (L2 := [some (.ref 65), some (.int 4), some (.int a2), some (.int a3), some (.int 1), some (.int (-3)), some (.int 0), none, none, none, none, none]) rfl rfl ?_
    refine E_iload rfl rfl ?_
    refine E_iload_n rfl rfl ?_
    refine E_ic (t := 80) (b := true) rfl rfl ((cn_ge (by decide : (0 : Int32).toInt = 0) (rfl : (a2).toInt = (a2).toInt)).trans (decide_eq_true (by omega))) ?_
    refine E_iload rfl rfl ?_
    refine E_if (t := 92) (b := false) rfl rfl (by decide) ?_
    refine E_aload_n rfl rfl ?_
    refine E_iload rfl rfl ?_
    refine E_callV (v := some (.int (-13))) (As := [.ref 65, .int (-3)]) (r0 := []) (cs2 := ((w0.set 48 (.inl [0, 0, 0, 1, 0, 0, 0, 0])).set 66 (.inl [0, 0, 0, 1, 0, 0, 0, 0]))) rfl rfl rfl (Nat.le_of_ble_eq_true rfl) rfl rfl c258_X6_noTen (by decide) (by simp only [List.length_set]) ?_
    exact E_iret rfl rfl, (by simp only [List.length_set]; rfl), (by simp only [List.length_set]; rfl), ((ab_szs rfl).trans ((ab_szs rfl).trans rfl)), fun _ => rfl⟩
theorem f_costs_54 (a2 a3 : Int32) (ha2l : (1 : Int) ≤ a2.toInt) (ha3l : (0 : Int) ≤ a3.toInt) (ha3h : a3.toInt ≤ 7) : p1_P 6 100 4 188 [.ref 0, .int 4, .int a2, .int a3, .int 1] [.ref 65, .int 4, .int a2, .int a3, .int 1] :=
  ⟨(-13), (w0.set 48 (.inl [0, 0, 0, 1, 0, 0, 0, 0])), ((w0.set 48 (.inl [0, 0, 0, 1, 0, 0, 0, 0])).set 66 (.inl [0, 0, 0, 1, 0, 0, 0, 0])), by
    refine Ef.in (md := mX5_costs) (L := [some (.ref 0), some (.int 4), some (.int a2), some (.int a3), some (.int 1), none, none, none, none]) rfl (Nat.le_of_ble_eq_true rfl) rfl ?_
    refine E_iload_n rfl rfl ?_
    have e2 : Ev ab_Z0 1 47 [.int a3] w0 (some (.int 1), w0) := by
      refine Ef.in (md := mX4_isWish) (L := [some (.int a3)]) rfl (Nat.le_of_ble_eq_true rfl) rfl ?_
      refine E_iload_n rfl rfl ?_
      refine E_if (t := 14) (b := false) rfl rfl ((cn_lt (rfl : (a3).toInt = (a3).toInt) (by decide : (0 : Int32).toInt = 0)).trans (decide_eq_false (by omega))) ?_
      refine E_iload_n rfl rfl ?_
      refine E_bipush (x := 8) rfl (by decide) ?_
      refine E_ic (t := 14) (b := false) rfl rfl ((cn_ge (rfl : (a3).toInt = (a3).toInt) (by decide : (8 : Int32).toInt = 8)).trans (decide_eq_false (by omega))) ?_
      refine E_iconst (x := 1) rfl (by decide) ?_
      refine E_goto (t := 15) rfl rfl ?_
      exact E_iret rfl rfl
    refine E_callS (v := some (.int 1)) (As := [.int a3]) (r0 := []) (cs2 := w0) rfl rfl rfl (Nat.le_of_ble_eq_true rfl) rfl e2 (by decide) rfl ?_
    refine E_if (t := 31) (b := false) rfl rfl (by decide) ?_
    refine E_aload_n rfl rfl ?_
    refine E_iload_n rfl rfl ?_
    refine E_iload_n rfl rfl ?_
    refine E_bipush (x := 40) rfl (by decide) ?_
    refine E_iload rfl rfl ?_
    refine E_callS (v := some (.int 1)) (As := [.int 1]) (r0 := [.int 40, .int a2, .int 4, .ref 0]) (cs2 := w0) rfl rfl rfl (Nat.le_of_ble_eq_true rfl) rfl c239_X5_isOneOfTwo (by decide) rfl ?_
    refine E_if (t := 24) (b := true) rfl rfl (by decide) ?_
    refine E_iconst (x := 0) rfl (by decide) ?_
    have e22 : Ev ab_Z0 3 120 [.ref 0, .int 4, .int a2, .int 40, .int 0] w0 (some (.int 3), w0) := by
      refine Ef.in (md := mX5_whyNoTwos) (L := [some (.ref 0), some (.int 4), some (.int a2), some (.int 40), some (.int 0), none]) rfl (Nat.le_of_ble_eq_true rfl) rfl ?_
      refine E_aload_n rfl rfl ?_
      refine E_iload_n rfl rfl ?_
      refine E_callV (v := some (.int 3)) (As := [.ref 0, .int 4]) (r0 := []) (cs2 := w0) rfl rfl rfl (Nat.le_of_ble_eq_true rfl) rfl rfl c48_X5_whyNoRow (by decide) rfl ?_
      refine E_istore (L2 := [some (.ref 0), some (.int 4), some (.int a2), some (.int 40), some (.int 0), some (.int 3)]) rfl rfl ?_
      refine E_iload rfl rfl ?_
      refine E_if (t := 15) (b := false) rfl rfl (by decide) ?_
      refine E_iload rfl rfl ?_
      exact E_iret rfl rfl
    refine E_callV (v := some (.int 3)) (As := [.ref 0, .int 4, .int a2, .int 40, .int 0]) (r0 := []) (cs2 := w0) rfl rfl rfl (Nat.le_of_ble_eq_true rfl) rfl rfl e22 (by decide) rfl ?_
    refine E_goto (t := 32) rfl rfl ?_
    refine E_istore (L2 := [some (.ref 0), some (.int 4), some (.int a2), some (.int a3), some (.int 1), some (.int 3), none, none, none]) rfl rfl ?_
    refine E_iload rfl rfl ?_
    refine E_if (t := 56) (b := true) rfl rfl (by decide) ?_
    refine E_iload rfl rfl ?_
    refine E_if (t := 71) (b := false) rfl rfl (by decide) ?_
    refine E_aload_n rfl rfl ?_
    refine E_iload rfl rfl ?_
    refine E_callV (v := some (.int (-3))) (As := [.ref 0, .int 3]) (r0 := []) (cs2 := (w0.set 48 (.inl [0, 0, 0, 1, 0, 0, 0, 0]))) rfl rfl rfl (Nat.le_of_ble_eq_true rfl) rfl rfl c32_X5_refuse (by decide) (by simp only [List.length_set]) ?_
    refine E_bipush (x := 10) rfl (by decide) ?_
    refine E_isub (z := (-13)) rfl (by decide) ?_
    exact E_iret rfl rfl, by
    refine Ef.in (md := mX6_costs) (L := [some (.ref 65), some (.int 4), some (.int a2), some (.int a3), some (.int 1), none, none, none, none, none, none, none]) rfl (Nat.le_of_ble_eq_true rfl) rfl ?_
    refine E_aload_n rfl rfl ?_
    refine E_iload_n rfl rfl ?_
    refine E_iconst (x := 0) rfl (by decide) ?_
    refine E_bipush (x := 7) rfl (by decide) ?_
    have e5 : Ev ab_Z0 1 134 [.ref 65, .int a3, .int 0, .int 7] (w0.set 48 (.inl [0, 0, 0, 1, 0, 0, 0, 0])) (some (.int 1), (w0.set 48 (.inl [0, 0, 0, 1, 0, 0, 0, 0]))) := by
      refine Ef.in (md := mX6_isFrom) (L := [some (.ref 65), some (.int a3), some (.int 0), some (.int 7)]) rfl (Nat.le_of_ble_eq_true rfl) rfl ?_
      refine E_iload_n rfl rfl ?_
      refine E_iload_n rfl rfl ?_
      refine E_ic (t := 14) (b := false) rfl rfl ((cn_lt (rfl : (a3).toInt = (a3).toInt) (by decide : (0 : Int32).toInt = 0)).trans (decide_eq_false (by omega))) ?_
      refine E_iload_n rfl rfl ?_
      refine E_iload_n rfl rfl ?_
      refine E_ic (t := 14) (b := false) rfl rfl ((cn_gt (rfl : (a3).toInt = (a3).toInt) (by decide : (7 : Int32).toInt = 7)).trans (decide_eq_false (by omega))) ?_
      refine E_iconst (x := 1) rfl (by decide) ?_
      refine E_goto (t := 15) rfl rfl ?_
      exact E_iret rfl rfl
    refine E_callV (v := some (.int 1)) (As := [.ref 65, .int a3, .int 0, .int 7]) (r0 := []) (cs2 := (w0.set 48 (.inl [0, 0, 0, 1, 0, 0, 0, 0]))) rfl rfl rfl (Nat.le_of_ble_eq_true rfl) rfl rfl e5 (by decide) rfl ?_
    refine E_if (t := 15) (b := true) rfl rfl (by decide) ?_
    refine E_aload_n rfl rfl ?_
    refine E_iload_n rfl rfl ?_
    refine E_iload_n rfl rfl ?_
    refine E_bipush (x := 40) rfl (by decide) ?_
    refine E_iload rfl rfl ?_
    refine E_if (t := 31) (b := false) rfl rfl (by decide) ?_
    refine E_iload rfl rfl ?_
    refine E_iconst (x := 1) rfl (by decide) ?_
    refine E_ic (t := 35) (b := false) rfl rfl (by decide) ?_
    refine E_iconst (x := 1) rfl (by decide) ?_
    refine E_goto (t := 36) rfl rfl ?_
    have e29 : Ev ab_Z0 3 186 [.ref 65, .int 4, .int a2, .int 40, .int 1] (w0.set 48 (.inl [0, 0, 0, 1, 0, 0, 0, 0])) (some (.int (-3)), (w0.set 48 (.inl [0, 0, 0, 1, 0, 0, 0, 0]))) := by
      refine Ef.in (md := mX6_barsOf) (L := [some (.ref 65), some (.int 4), some (.int a2), some (.int 40), some (.int 1), none]) rfl (Nat.le_of_ble_eq_true rfl) rfl ?_
      refine E_aload_n rfl rfl ?_
      refine E_iload_n rfl rfl ?_
      refine E_callV (v := some (.int (-3))) (As := [.ref 65, .int 4]) (r0 := []) (cs2 := (w0.set 48 (.inl [0, 0, 0, 1, 0, 0, 0, 0]))) rfl rfl rfl (Nat.le_of_ble_eq_true rfl) rfl rfl c217_X6_wanted (by decide) rfl ?_
      refine E_istore (L2 := [some (.ref 65), some (.int 4), some (.int a2), some (.int 40), some (.int 1), some (.int (-3))]) rfl rfl ?_
      refine E_iload rfl rfl ?_
      refine E_if (t := 17) (b := false) rfl rfl (by decide) ?_
      refine E_iload rfl rfl ?_
      refine E_goto (t := 59) rfl rfl ?_
      exact E_iret rfl rfl
    refine E_callV (v := some (.int (-3))) (As := [.ref 65, .int 4, .int a2, .int 40, .int 1]) (r0 := []) (cs2 := (w0.set 48 (.inl [0, 0, 0, 1, 0, 0, 0, 0]))) rfl rfl rfl (Nat.le_of_ble_eq_true rfl) rfl rfl e29 (by decide) rfl ?_
    refine E_istore (L2 := [some (.ref 65), some (.int 4), some (.int a2), some (.int a3), some (.int 1), some (.int (-3)), none, none, none, none, none, none]) rfl rfl ?_
    refine E_iconst (x := 0) rfl (by decide) ?_
    refine E_istore (L2 := [some (.ref 65), some (.int 4), some (.int a2), some (.int a3), some (.int 1), some (.int (-3)), some (.int 0), none, none, none, none, none]) rfl rfl ?_
    refine E_iload rfl rfl ?_
    refine E_iload_n rfl rfl ?_
    refine E_ic (t := 80) (b := false) rfl rfl ((cn_ge (by decide : (0 : Int32).toInt = 0) (rfl : (a2).toInt = (a2).toInt)).trans (decide_eq_false (by omega))) ?_
    refine E_iload rfl rfl ?_
    refine E_if (t := 80) (b := true) rfl rfl (by decide) ?_
    refine E_iload rfl rfl ?_
    refine E_if (t := 92) (b := false) rfl rfl (by decide) ?_
    refine E_aload_n rfl rfl ?_
    refine E_iload rfl rfl ?_
    refine E_callV (v := some (.int (-13))) (As := [.ref 65, .int (-3)]) (r0 := []) (cs2 := ((w0.set 48 (.inl [0, 0, 0, 1, 0, 0, 0, 0])).set 66 (.inl [0, 0, 0, 1, 0, 0, 0, 0]))) rfl rfl rfl (Nat.le_of_ble_eq_true rfl) rfl rfl c258_X6_noTen (by decide) (by simp only [List.length_set]) ?_
    exact E_iret rfl rfl, (by simp only [List.length_set]; rfl), (by simp only [List.length_set]; rfl), ((ab_szs rfl).trans ((ab_szs rfl).trans rfl)), fun _ => rfl⟩
theorem f_costs_55 (a2 a3 : Int32) (ha2h : a2.toInt ≤ 0) (ha3l : (0 : Int) ≤ a3.toInt) (ha3h : a3.toInt ≤ 7) : p1_P 6 100 4 188 [.ref 0, .int 5, .int a2, .int a3, .int 1] [.ref 65, .int 5, .int a2, .int a3, .int 1] :=
  ⟨(-13), (w0.set 48 (.inl [0, 0, 0, 1, 0, 0, 0, 0])), ((w0.set 48 (.inl [0, 0, 0, 1, 0, 0, 0, 0])).set 66 (.inl [0, 0, 0, 1, 0, 0, 0, 0])), by
    refine Ef.in (md := mX5_costs) (L := [some (.ref 0), some (.int 5), some (.int a2), some (.int a3), some (.int 1), none, none, none, none]) rfl (Nat.le_of_ble_eq_true rfl) rfl ?_
    refine E_iload_n rfl rfl ?_
    have e2 : Ev ab_Z0 1 47 [.int a3] w0 (some (.int 1), w0) := by
      refine Ef.in (md := mX4_isWish) (L := [some (.int a3)]) rfl (Nat.le_of_ble_eq_true rfl) rfl ?_
      refine E_iload_n rfl rfl ?_
      refine E_if (t := 14) (b := false) rfl rfl ((cn_lt (rfl : (a3).toInt = (a3).toInt) (by decide : (0 : Int32).toInt = 0)).trans (decide_eq_false (by omega))) ?_
      refine E_iload_n rfl rfl ?_
      refine E_bipush (x := 8) rfl (by decide) ?_
      refine E_ic (t := 14) (b := false) rfl rfl ((cn_ge (rfl : (a3).toInt = (a3).toInt) (by decide : (8 : Int32).toInt = 8)).trans (decide_eq_false (by omega))) ?_
      refine E_iconst (x := 1) rfl (by decide) ?_
      refine E_goto (t := 15) rfl rfl ?_
      exact E_iret rfl rfl
    refine E_callS (v := some (.int 1)) (As := [.int a3]) (r0 := []) (cs2 := w0) rfl rfl rfl (Nat.le_of_ble_eq_true rfl) rfl e2 (by decide) rfl ?_
    refine E_if (t := 31) (b := false) rfl rfl (by decide) ?_
    refine E_aload_n rfl rfl ?_
    refine E_iload_n rfl rfl ?_
    refine E_iload_n rfl rfl ?_
    refine E_bipush (x := 40) rfl (by decide) ?_
    refine E_iload rfl rfl ?_
    refine E_callS (v := some (.int 1)) (As := [.int 1]) (r0 := [.int 40, .int a2, .int 5, .ref 0]) (cs2 := w0) rfl rfl rfl (Nat.le_of_ble_eq_true rfl) rfl c239_X5_isOneOfTwo (by decide) rfl ?_
    refine E_if (t := 24) (b := true) rfl rfl (by decide) ?_
    refine E_iconst (x := 0) rfl (by decide) ?_
    have e22 : Ev ab_Z0 3 120 [.ref 0, .int 5, .int a2, .int 40, .int 0] w0 (some (.int 3), w0) := by
      refine Ef.in (md := mX5_whyNoTwos) (L := [some (.ref 0), some (.int 5), some (.int a2), some (.int 40), some (.int 0), none]) rfl (Nat.le_of_ble_eq_true rfl) rfl ?_
      refine E_aload_n rfl rfl ?_
      refine E_iload_n rfl rfl ?_
      refine E_callV (v := some (.int 3)) (As := [.ref 0, .int 5]) (r0 := []) (cs2 := w0) rfl rfl rfl (Nat.le_of_ble_eq_true rfl) rfl rfl c52_X5_whyNoRow (by decide) rfl ?_
      refine E_istore (L2 := [some (.ref 0), some (.int 5), some (.int a2), some (.int 40), some (.int 0), some (.int 3)]) rfl rfl ?_
      refine E_iload rfl rfl ?_
      refine E_if (t := 15) (b := false) rfl rfl (by decide) ?_
      refine E_iload rfl rfl ?_
      exact E_iret rfl rfl
    refine E_callV (v := some (.int 3)) (As := [.ref 0, .int 5, .int a2, .int 40, .int 0]) (r0 := []) (cs2 := w0) rfl rfl rfl (Nat.le_of_ble_eq_true rfl) rfl rfl e22 (by decide) rfl ?_
    refine E_goto (t := 32) rfl rfl ?_
    refine E_istore (L2 := [some (.ref 0), some (.int 5), some (.int a2), some (.int a3), some (.int 1), some (.int 3), none, none, none]) rfl rfl ?_
    refine E_iload rfl rfl ?_
    refine E_if (t := 56) (b := true) rfl rfl (by decide) ?_
    refine E_iload rfl rfl ?_
    refine E_if (t := 71) (b := false) rfl rfl (by decide) ?_
    refine E_aload_n rfl rfl ?_
    refine E_iload rfl rfl ?_
    refine E_callV (v := some (.int (-3))) (As := [.ref 0, .int 3]) (r0 := []) (cs2 := (w0.set 48 (.inl [0, 0, 0, 1, 0, 0, 0, 0]))) rfl rfl rfl (Nat.le_of_ble_eq_true rfl) rfl rfl c32_X5_refuse (by decide) (by simp only [List.length_set]) ?_
    refine E_bipush (x := 10) rfl (by decide) ?_
    refine E_isub (z := (-13)) rfl (by decide) ?_
    exact E_iret rfl rfl, by
    refine Ef.in (md := mX6_costs) (L := [some (.ref 65), some (.int 5), some (.int a2), some (.int a3), some (.int 1), none, none, none, none, none, none, none]) rfl (Nat.le_of_ble_eq_true rfl) rfl ?_
    refine E_aload_n rfl rfl ?_
    refine E_iload_n rfl rfl ?_
    refine E_iconst (x := 0) rfl (by decide) ?_
    refine E_bipush (x := 7) rfl (by decide) ?_
    have e5 : Ev ab_Z0 1 134 [.ref 65, .int a3, .int 0, .int 7] (w0.set 48 (.inl [0, 0, 0, 1, 0, 0, 0, 0])) (some (.int 1), (w0.set 48 (.inl [0, 0, 0, 1, 0, 0, 0, 0]))) := by
      refine Ef.in (md := mX6_isFrom) (L := [some (.ref 65), some (.int a3), some (.int 0), some (.int 7)]) rfl (Nat.le_of_ble_eq_true rfl) rfl ?_
      refine E_iload_n rfl rfl ?_
      refine E_iload_n rfl rfl ?_
      refine E_ic (t := 14) (b := false) rfl rfl ((cn_lt (rfl : (a3).toInt = (a3).toInt) (by decide : (0 : Int32).toInt = 0)).trans (decide_eq_false (by omega))) ?_
      refine E_iload_n rfl rfl ?_
      refine E_iload_n rfl rfl ?_
      refine E_ic (t := 14) (b := false) rfl rfl ((cn_gt (rfl : (a3).toInt = (a3).toInt) (by decide : (7 : Int32).toInt = 7)).trans (decide_eq_false (by omega))) ?_
      refine E_iconst (x := 1) rfl (by decide) ?_
      refine E_goto (t := 15) rfl rfl ?_
      exact E_iret rfl rfl
    refine E_callV (v := some (.int 1)) (As := [.ref 65, .int a3, .int 0, .int 7]) (r0 := []) (cs2 := (w0.set 48 (.inl [0, 0, 0, 1, 0, 0, 0, 0]))) rfl rfl rfl (Nat.le_of_ble_eq_true rfl) rfl rfl e5 (by decide) rfl ?_
    refine E_if (t := 15) (b := true) rfl rfl (by decide) ?_
    refine E_aload_n rfl rfl ?_
    refine E_iload_n rfl rfl ?_
    refine E_iload_n rfl rfl ?_
    refine E_bipush (x := 40) rfl (by decide) ?_
    refine E_iload rfl rfl ?_
    refine E_if (t := 31) (b := false) rfl rfl (by decide) ?_
    refine E_iload rfl rfl ?_
    refine E_iconst (x := 1) rfl (by decide) ?_
    refine E_ic (t := 35) (b := false) rfl rfl (by decide) ?_
    refine E_iconst (x := 1) rfl (by decide) ?_
    refine E_goto (t := 36) rfl rfl ?_
    have e29 : Ev ab_Z0 3 186 [.ref 65, .int 5, .int a2, .int 40, .int 1] (w0.set 48 (.inl [0, 0, 0, 1, 0, 0, 0, 0])) (some (.int (-3)), (w0.set 48 (.inl [0, 0, 0, 1, 0, 0, 0, 0]))) := by
      refine Ef.in (md := mX6_barsOf) (L := [some (.ref 65), some (.int 5), some (.int a2), some (.int 40), some (.int 1), none]) rfl (Nat.le_of_ble_eq_true rfl) rfl ?_
      refine E_aload_n rfl rfl ?_
      refine E_iload_n rfl rfl ?_
      refine E_callV (v := some (.int (-3))) (As := [.ref 65, .int 5]) (r0 := []) (cs2 := (w0.set 48 (.inl [0, 0, 0, 1, 0, 0, 0, 0]))) rfl rfl rfl (Nat.le_of_ble_eq_true rfl) rfl rfl c220_X6_wanted (by decide) rfl ?_
      refine E_istore (L2 := [some (.ref 65), some (.int 5), some (.int a2), some (.int 40), some (.int 1), some (.int (-3))]) rfl rfl ?_
      refine E_iload rfl rfl ?_
      refine E_if (t := 17) (b := false) rfl rfl (by decide) ?_
      refine E_iload rfl rfl ?_
      refine E_goto (t := 59) rfl rfl ?_
      exact E_iret rfl rfl
    refine E_callV (v := some (.int (-3))) (As := [.ref 65, .int 5, .int a2, .int 40, .int 1]) (r0 := []) (cs2 := (w0.set 48 (.inl [0, 0, 0, 1, 0, 0, 0, 0]))) rfl rfl rfl (Nat.le_of_ble_eq_true rfl) rfl rfl e29 (by decide) rfl ?_
    refine E_istore (L2 := [some (.ref 65), some (.int 5), some (.int a2), some (.int a3), some (.int 1), some (.int (-3)), none, none, none, none, none, none]) rfl rfl ?_
    refine E_iconst (x := 0) rfl (by decide) ?_
    refine E_istore (L2 := [some (.ref 65), some (.int 5), some (.int a2), some (.int a3), some (.int 1), some (.int (-3)), some (.int 0), none, none, none, none, none]) rfl rfl ?_
    refine E_iload rfl rfl ?_
    refine E_iload_n rfl rfl ?_
    refine E_ic (t := 80) (b := true) rfl rfl ((cn_ge (by decide : (0 : Int32).toInt = 0) (rfl : (a2).toInt = (a2).toInt)).trans (decide_eq_true (by omega))) ?_
    refine E_iload rfl rfl ?_
    refine E_if (t := 92) (b := false) rfl rfl (by decide) ?_
    refine E_aload_n rfl rfl ?_
    refine E_iload rfl rfl ?_
    refine E_callV (v := some (.int (-13))) (As := [.ref 65, .int (-3)]) (r0 := []) (cs2 := ((w0.set 48 (.inl [0, 0, 0, 1, 0, 0, 0, 0])).set 66 (.inl [0, 0, 0, 1, 0, 0, 0, 0]))) rfl rfl rfl (Nat.le_of_ble_eq_true rfl) rfl rfl c258_X6_noTen (by decide) (by simp only [List.length_set]) ?_
    exact E_iret rfl rfl, (by simp only [List.length_set]; rfl), (by simp only [List.length_set]; rfl), ((ab_szs rfl).trans ((ab_szs rfl).trans rfl)), fun _ => rfl⟩
theorem f_costs_56 (a2 a3 : Int32) (ha2l : (1 : Int) ≤ a2.toInt) (ha3l : (0 : Int) ≤ a3.toInt) (ha3h : a3.toInt ≤ 7) : p1_P 6 100 4 188 [.ref 0, .int 5, .int a2, .int a3, .int 1] [.ref 65, .int 5, .int a2, .int a3, .int 1] :=
  ⟨(-13), (w0.set 48 (.inl [0, 0, 0, 1, 0, 0, 0, 0])), ((w0.set 48 (.inl [0, 0, 0, 1, 0, 0, 0, 0])).set 66 (.inl [0, 0, 0, 1, 0, 0, 0, 0])), by
    refine Ef.in (md := mX5_costs) (L := [some (.ref 0), some (.int 5), some (.int a2), some (.int a3), some (.int 1), none, none, none, none]) rfl (Nat.le_of_ble_eq_true rfl) rfl ?_
    refine E_iload_n rfl rfl ?_
    have e2 : Ev ab_Z0 1 47 [.int a3] w0 (some (.int 1), w0) := by
      refine Ef.in (md := mX4_isWish) (L := [some (.int a3)]) rfl (Nat.le_of_ble_eq_true rfl) rfl ?_
      refine E_iload_n rfl rfl ?_
      refine E_if (t := 14) (b := false) rfl rfl ((cn_lt (rfl : (a3).toInt = (a3).toInt) (by decide : (0 : Int32).toInt = 0)).trans (decide_eq_false (by omega))) ?_
      refine E_iload_n rfl rfl ?_
      refine E_bipush (x := 8) rfl (by decide) ?_
      refine E_ic (t := 14) (b := false) rfl rfl ((cn_ge (rfl : (a3).toInt = (a3).toInt) (by decide : (8 : Int32).toInt = 8)).trans (decide_eq_false (by omega))) ?_
      refine E_iconst (x := 1) rfl (by decide) ?_
      refine E_goto (t := 15) rfl rfl ?_
      exact E_iret rfl rfl
    refine E_callS (v := some (.int 1)) (As := [.int a3]) (r0 := []) (cs2 := w0) rfl rfl rfl (Nat.le_of_ble_eq_true rfl) rfl e2 (by decide) rfl ?_
    refine E_if (t := 31) (b := false) rfl rfl (by decide) ?_
    refine E_aload_n rfl rfl ?_
    refine E_iload_n rfl rfl ?_
    refine E_iload_n rfl rfl ?_
    refine E_bipush (x := 40) rfl (by decide) ?_
    refine E_iload rfl rfl ?_
    refine E_callS (v := some (.int 1)) (As := [.int 1]) (r0 := [.int 40, .int a2, .int 5, .ref 0]) (cs2 := w0) rfl rfl rfl (Nat.le_of_ble_eq_true rfl) rfl c239_X5_isOneOfTwo (by decide) rfl ?_
    refine E_if (t := 24) (b := true) rfl rfl (by decide) ?_
    refine E_iconst (x := 0) rfl (by decide) ?_
    have e22 : Ev ab_Z0 3 120 [.ref 0, .int 5, .int a2, .int 40, .int 0] w0 (some (.int 3), w0) := by
      refine Ef.in (md := mX5_whyNoTwos) (L := [some (.ref 0), some (.int 5), some (.int a2), some (.int 40), some (.int 0), none]) rfl (Nat.le_of_ble_eq_true rfl) rfl ?_
      refine E_aload_n rfl rfl ?_
      refine E_iload_n rfl rfl ?_
      refine E_callV (v := some (.int 3)) (As := [.ref 0, .int 5]) (r0 := []) (cs2 := w0) rfl rfl rfl (Nat.le_of_ble_eq_true rfl) rfl rfl c52_X5_whyNoRow (by decide) rfl ?_
      refine E_istore (L2 := [some (.ref 0), some (.int 5), some (.int a2), some (.int 40), some (.int 0), some (.int 3)]) rfl rfl ?_
      refine E_iload rfl rfl ?_
      refine E_if (t := 15) (b := false) rfl rfl (by decide) ?_
      refine E_iload rfl rfl ?_
      exact E_iret rfl rfl
    refine E_callV (v := some (.int 3)) (As := [.ref 0, .int 5, .int a2, .int 40, .int 0]) (r0 := []) (cs2 := w0) rfl rfl rfl (Nat.le_of_ble_eq_true rfl) rfl rfl e22 (by decide) rfl ?_
    refine E_goto (t := 32) rfl rfl ?_
    refine E_istore (L2 := [some (.ref 0), some (.int 5), some (.int a2), some (.int a3), some (.int 1), some (.int 3), none, none, none]) rfl rfl ?_
    refine E_iload rfl rfl ?_
    refine E_if (t := 56) (b := true) rfl rfl (by decide) ?_
    refine E_iload rfl rfl ?_
    refine E_if (t := 71) (b := false) rfl rfl (by decide) ?_
    refine E_aload_n rfl rfl ?_
    refine E_iload rfl rfl ?_
    refine E_callV (v := some (.int (-3))) (As := [.ref 0, .int 3]) (r0 := []) (cs2 := (w0.set 48 (.inl [0, 0, 0, 1, 0, 0, 0, 0]))) rfl rfl rfl (Nat.le_of_ble_eq_true rfl) rfl rfl c32_X5_refuse (by decide) (by simp only [List.length_set]) ?_
    refine E_bipush (x := 10) rfl (by decide) ?_
    refine E_isub (z := (-13)) rfl (by decide) ?_
    exact E_iret rfl rfl, by
    refine Ef.in (md := mX6_costs) (L := [some (.ref 65), some (.int 5), some (.int a2), some (.int a3), some (.int 1), none, none, none, none, none, none, none]) rfl (Nat.le_of_ble_eq_true rfl) rfl ?_
    refine E_aload_n rfl rfl ?_
    refine E_iload_n rfl rfl ?_
    refine E_iconst (x := 0) rfl (by decide) ?_
    refine E_bipush (x := 7) rfl (by decide) ?_
    have e5 : Ev ab_Z0 1 134 [.ref 65, .int a3, .int 0, .int 7] (w0.set 48 (.inl [0, 0, 0, 1, 0, 0, 0, 0])) (some (.int 1), (w0.set 48 (.inl [0, 0, 0, 1, 0, 0, 0, 0]))) := by
      refine Ef.in (md := mX6_isFrom) (L := [some (.ref 65), some (.int a3), some (.int 0), some (.int 7)]) rfl (Nat.le_of_ble_eq_true rfl) rfl ?_
      refine E_iload_n rfl rfl ?_
      refine E_iload_n rfl rfl ?_
      refine E_ic (t := 14) (b := false) rfl rfl ((cn_lt (rfl : (a3).toInt = (a3).toInt) (by decide : (0 : Int32).toInt = 0)).trans (decide_eq_false (by omega))) ?_
      refine E_iload_n rfl rfl ?_
      refine E_iload_n rfl rfl ?_
      refine E_ic (t := 14) (b := false) rfl rfl ((cn_gt (rfl : (a3).toInt = (a3).toInt) (by decide : (7 : Int32).toInt = 7)).trans (decide_eq_false (by omega))) ?_
      refine E_iconst (x := 1) rfl (by decide) ?_
      refine E_goto (t := 15) rfl rfl ?_
      exact E_iret rfl rfl
    refine E_callV (v := some (.int 1)) (As := [.ref 65, .int a3, .int 0, .int 7]) (r0 := []) (cs2 := (w0.set 48 (.inl [0, 0, 0, 1, 0, 0, 0, 0]))) rfl rfl rfl (Nat.le_of_ble_eq_true rfl) rfl rfl e5 (by decide) rfl ?_
    refine E_if (t := 15) (b := true) rfl rfl (by decide) ?_
    refine E_aload_n rfl rfl ?_
    refine E_iload_n rfl rfl ?_
    refine E_iload_n rfl rfl ?_
    refine E_bipush (x := 40) rfl (by decide) ?_
    refine E_iload rfl rfl ?_
    refine E_if (t := 31) (b := false) rfl rfl (by decide) ?_
    refine E_iload rfl rfl ?_
    refine E_iconst (x := 1) rfl (by decide) ?_
    refine E_ic (t := 35) (b := false) rfl rfl (by decide) ?_
    refine E_iconst (x := 1) rfl (by decide) ?_
    refine E_goto (t := 36) rfl rfl ?_
    have e29 : Ev ab_Z0 3 186 [.ref 65, .int 5, .int a2, .int 40, .int 1] (w0.set 48 (.inl [0, 0, 0, 1, 0, 0, 0, 0])) (some (.int (-3)), (w0.set 48 (.inl [0, 0, 0, 1, 0, 0, 0, 0]))) := by
      refine Ef.in (md := mX6_barsOf) (L := [some (.ref 65), some (.int 5), some (.int a2), some (.int 40), some (.int 1), none]) rfl (Nat.le_of_ble_eq_true rfl) rfl ?_
      refine E_aload_n rfl rfl ?_
      refine E_iload_n rfl rfl ?_
      refine E_callV (v := some (.int (-3))) (As := [.ref 65, .int 5]) (r0 := []) (cs2 := (w0.set 48 (.inl [0, 0, 0, 1, 0, 0, 0, 0]))) rfl rfl rfl (Nat.le_of_ble_eq_true rfl) rfl rfl c220_X6_wanted (by decide) rfl ?_
      refine E_istore (L2 := [some (.ref 65), some (.int 5), some (.int a2), some (.int 40), some (.int 1), some (.int (-3))]) rfl rfl ?_
      refine E_iload rfl rfl ?_
      refine E_if (t := 17) (b := false) rfl rfl (by decide) ?_
      refine E_iload rfl rfl ?_
      refine E_goto (t := 59) rfl rfl ?_
      exact E_iret rfl rfl
    refine E_callV (v := some (.int (-3))) (As := [.ref 65, .int 5, .int a2, .int 40, .int 1]) (r0 := []) (cs2 := (w0.set 48 (.inl [0, 0, 0, 1, 0, 0, 0, 0]))) rfl rfl rfl (Nat.le_of_ble_eq_true rfl) rfl rfl e29 (by decide) rfl ?_
    refine E_istore (L2 := [some (.ref 65), some (.int 5), some (.int a2), some (.int a3), some (.int 1), some (.int (-3)), none, none, none, none, none, none]) rfl rfl ?_
    refine E_iconst (x := 0) rfl (by decide) ?_
    refine E_istore (L2 := [some (.ref 65), some (.int 5), some (.int a2), some (.int a3), some (.int 1), some (.int (-3)), some (.int 0), none, none, none, none, none]) rfl rfl ?_
    refine E_iload rfl rfl ?_
    refine E_iload_n rfl rfl ?_
    refine E_ic (t := 80) (b := false) rfl rfl ((cn_ge (by decide : (0 : Int32).toInt = 0) (rfl : (a2).toInt = (a2).toInt)).trans (decide_eq_false (by omega))) ?_
    refine E_iload rfl rfl ?_
    refine E_if (t := 80) (b := true) rfl rfl (by decide) ?_
    refine E_iload rfl rfl ?_
    refine E_if (t := 92) (b := false) rfl rfl (by decide) ?_
    refine E_aload_n rfl rfl ?_
    refine E_iload rfl rfl ?_
    refine E_callV (v := some (.int (-13))) (As := [.ref 65, .int (-3)]) (r0 := []) (cs2 := ((w0.set 48 (.inl [0, 0, 0, 1, 0, 0, 0, 0])).set 66 (.inl [0, 0, 0, 1, 0, 0, 0, 0]))) rfl rfl rfl (Nat.le_of_ble_eq_true rfl) rfl rfl c258_X6_noTen (by decide) (by simp only [List.length_set]) ?_
    exact E_iret rfl rfl, (by simp only [List.length_set]; rfl), (by simp only [List.length_set]; rfl), ((ab_szs rfl).trans ((ab_szs rfl).trans rfl)), fun _ => rfl⟩
theorem f_costs_57 (a2 a3 : Int32) (ha2h : a2.toInt ≤ 0) (ha3l : (0 : Int) ≤ a3.toInt) (ha3h : a3.toInt ≤ 7) : p1_P 6 100 4 188 [.ref 0, .int 6, .int a2, .int a3, .int 1] [.ref 65, .int 6, .int a2, .int a3, .int 1] :=
  ⟨(-13), (w0.set 48 (.inl [0, 0, 0, 1, 0, 0, 0, 0])), ((w0.set 48 (.inl [0, 0, 0, 1, 0, 0, 0, 0])).set 66 (.inl [0, 0, 0, 1, 0, 0, 0, 0])), by
    refine Ef.in (md := mX5_costs) (L := [some (.ref 0), some (.int 6), some (.int a2), some (.int a3), some (.int 1), none, none, none, none]) rfl (Nat.le_of_ble_eq_true rfl) rfl ?_
    refine E_iload_n rfl rfl ?_
    have e2 : Ev ab_Z0 1 47 [.int a3] w0 (some (.int 1), w0) := by
      refine Ef.in (md := mX4_isWish) (L := [some (.int a3)]) rfl (Nat.le_of_ble_eq_true rfl) rfl ?_
      refine E_iload_n rfl rfl ?_
      refine E_if (t := 14) (b := false) rfl rfl ((cn_lt (rfl : (a3).toInt = (a3).toInt) (by decide : (0 : Int32).toInt = 0)).trans (decide_eq_false (by omega))) ?_
      refine E_iload_n rfl rfl ?_
      refine E_bipush (x := 8) rfl (by decide) ?_
      refine E_ic (t := 14) (b := false) rfl rfl ((cn_ge (rfl : (a3).toInt = (a3).toInt) (by decide : (8 : Int32).toInt = 8)).trans (decide_eq_false (by omega))) ?_
      refine E_iconst (x := 1) rfl (by decide) ?_
      refine E_goto (t := 15) rfl rfl ?_
      exact E_iret rfl rfl
    refine E_callS (v := some (.int 1)) (As := [.int a3]) (r0 := []) (cs2 := w0) rfl rfl rfl (Nat.le_of_ble_eq_true rfl) rfl e2 (by decide) rfl ?_
    refine E_if (t := 31) (b := false) rfl rfl (by decide) ?_
    refine E_aload_n rfl rfl ?_
    refine E_iload_n rfl rfl ?_
    refine E_iload_n rfl rfl ?_
    refine E_bipush (x := 40) rfl (by decide) ?_
    refine E_iload rfl rfl ?_
    refine E_callS (v := some (.int 1)) (As := [.int 1]) (r0 := [.int 40, .int a2, .int 6, .ref 0]) (cs2 := w0) rfl rfl rfl (Nat.le_of_ble_eq_true rfl) rfl c239_X5_isOneOfTwo (by decide) rfl ?_
    refine E_if (t := 24) (b := true) rfl rfl (by decide) ?_
    refine E_iconst (x := 0) rfl (by decide) ?_
    have e22 : Ev ab_Z0 3 120 [.ref 0, .int 6, .int a2, .int 40, .int 0] w0 (some (.int 3), w0) := by
      refine Ef.in (md := mX5_whyNoTwos) (L := [some (.ref 0), some (.int 6), some (.int a2), some (.int 40), some (.int 0), none]) rfl (Nat.le_of_ble_eq_true rfl) rfl ?_
      refine E_aload_n rfl rfl ?_
      refine E_iload_n rfl rfl ?_
      refine E_callV (v := some (.int 3)) (As := [.ref 0, .int 6]) (r0 := []) (cs2 := w0) rfl rfl rfl (Nat.le_of_ble_eq_true rfl) rfl rfl c56_X5_whyNoRow (by decide) rfl ?_
      refine E_istore (L2 := [some (.ref 0), some (.int 6), some (.int a2), some (.int 40), some (.int 0), some (.int 3)]) rfl rfl ?_
      refine E_iload rfl rfl ?_
      refine E_if (t := 15) (b := false) rfl rfl (by decide) ?_
      refine E_iload rfl rfl ?_
      exact E_iret rfl rfl
    refine E_callV (v := some (.int 3)) (As := [.ref 0, .int 6, .int a2, .int 40, .int 0]) (r0 := []) (cs2 := w0) rfl rfl rfl (Nat.le_of_ble_eq_true rfl) rfl rfl e22 (by decide) rfl ?_
    refine E_goto (t := 32) rfl rfl ?_
    refine E_istore (L2 := [some (.ref 0), some (.int 6), some (.int a2), some (.int a3), some (.int 1), some (.int 3), none, none, none]) rfl rfl ?_
    refine E_iload rfl rfl ?_
    refine E_if (t := 56) (b := true) rfl rfl (by decide) ?_
    refine E_iload rfl rfl ?_
    refine E_if (t := 71) (b := false) rfl rfl (by decide) ?_
    refine E_aload_n rfl rfl ?_
    refine E_iload rfl rfl ?_
    refine E_callV (v := some (.int (-3))) (As := [.ref 0, .int 3]) (r0 := []) (cs2 := (w0.set 48 (.inl [0, 0, 0, 1, 0, 0, 0, 0]))) rfl rfl rfl (Nat.le_of_ble_eq_true rfl) rfl rfl c32_X5_refuse (by decide) (by simp only [List.length_set]) ?_
    refine E_bipush (x := 10) rfl (by decide) ?_
    refine E_isub (z := (-13)) rfl (by decide) ?_
    exact E_iret rfl rfl, by
    refine Ef.in (md := mX6_costs) (L := [some (.ref 65), some (.int 6), some (.int a2), some (.int a3), some (.int 1), none, none, none, none, none, none, none]) rfl (Nat.le_of_ble_eq_true rfl) rfl ?_
    refine E_aload_n rfl rfl ?_
    refine E_iload_n rfl rfl ?_
    refine E_iconst (x := 0) rfl (by decide) ?_
    refine E_bipush (x := 7) rfl (by decide) ?_
    have e5 : Ev ab_Z0 1 134 [.ref 65, .int a3, .int 0, .int 7] (w0.set 48 (.inl [0, 0, 0, 1, 0, 0, 0, 0])) (some (.int 1), (w0.set 48 (.inl [0, 0, 0, 1, 0, 0, 0, 0]))) := by
      refine Ef.in (md := mX6_isFrom) (L := [some (.ref 65), some (.int a3), some (.int 0), some (.int 7)]) rfl (Nat.le_of_ble_eq_true rfl) rfl ?_
      refine E_iload_n rfl rfl ?_
      refine E_iload_n rfl rfl ?_
      refine E_ic (t := 14) (b := false) rfl rfl ((cn_lt (rfl : (a3).toInt = (a3).toInt) (by decide : (0 : Int32).toInt = 0)).trans (decide_eq_false (by omega))) ?_
      refine E_iload_n rfl rfl ?_
      refine E_iload_n rfl rfl ?_
      refine E_ic (t := 14) (b := false) rfl rfl ((cn_gt (rfl : (a3).toInt = (a3).toInt) (by decide : (7 : Int32).toInt = 7)).trans (decide_eq_false (by omega))) ?_
      refine E_iconst (x := 1) rfl (by decide) ?_
      refine E_goto (t := 15) rfl rfl ?_
      exact E_iret rfl rfl
    refine E_callV (v := some (.int 1)) (As := [.ref 65, .int a3, .int 0, .int 7]) (r0 := []) (cs2 := (w0.set 48 (.inl [0, 0, 0, 1, 0, 0, 0, 0]))) rfl rfl rfl (Nat.le_of_ble_eq_true rfl) rfl rfl e5 (by decide) rfl ?_
    refine E_if (t := 15) (b := true) rfl rfl (by decide) ?_
    refine E_aload_n rfl rfl ?_
    refine E_iload_n rfl rfl ?_
    refine E_iload_n rfl rfl ?_
    refine E_bipush (x := 40) rfl (by decide) ?_
    refine E_iload rfl rfl ?_
    refine E_if (t := 31) (b := false) rfl rfl (by decide) ?_
    refine E_iload rfl rfl ?_
    refine E_iconst (x := 1) rfl (by decide) ?_
    refine E_ic (t := 35) (b := false) rfl rfl (by decide) ?_
    refine E_iconst (x := 1) rfl (by decide) ?_
    refine E_goto (t := 36) rfl rfl ?_
    have e29 : Ev ab_Z0 3 186 [.ref 65, .int 6, .int a2, .int 40, .int 1] (w0.set 48 (.inl [0, 0, 0, 1, 0, 0, 0, 0])) (some (.int (-3)), (w0.set 48 (.inl [0, 0, 0, 1, 0, 0, 0, 0]))) := by
      refine Ef.in (md := mX6_barsOf) (L := [some (.ref 65), some (.int 6), some (.int a2), some (.int 40), some (.int 1), none]) rfl (Nat.le_of_ble_eq_true rfl) rfl ?_
      refine E_aload_n rfl rfl ?_
      refine E_iload_n rfl rfl ?_
      refine E_callV (v := some (.int (-3))) (As := [.ref 65, .int 6]) (r0 := []) (cs2 := (w0.set 48 (.inl [0, 0, 0, 1, 0, 0, 0, 0]))) rfl rfl rfl (Nat.le_of_ble_eq_true rfl) rfl rfl c223_X6_wanted (by decide) rfl ?_
      refine E_istore (L2 := [some (.ref 65), some (.int 6), some (.int a2), some (.int 40), some (.int 1), some (.int (-3))]) rfl rfl ?_
      refine E_iload rfl rfl ?_
      refine E_if (t := 17) (b := false) rfl rfl (by decide) ?_
      refine E_iload rfl rfl ?_
      refine E_goto (t := 59) rfl rfl ?_
      exact E_iret rfl rfl
    refine E_callV (v := some (.int (-3))) (As := [.ref 65, .int 6, .int a2, .int 40, .int 1]) (r0 := []) (cs2 := (w0.set 48 (.inl [0, 0, 0, 1, 0, 0, 0, 0]))) rfl rfl rfl (Nat.le_of_ble_eq_true rfl) rfl rfl e29 (by decide) rfl ?_
    refine E_istore (L2 := [some (.ref 65), some (.int 6), some (.int a2), some (.int a3), some (.int 1), some (.int (-3)), none, none, none, none, none, none]) rfl rfl ?_
    refine E_iconst (x := 0) rfl (by decide) ?_
    refine E_istore (L2 := [some (.ref 65), some (.int 6), some (.int a2), some (.int a3), some (.int 1), some (.int (-3)), some (.int 0), none, none, none, none, none]) rfl rfl ?_
    refine E_iload rfl rfl ?_
    refine E_iload_n rfl rfl ?_
    refine E_ic (t := 80) (b := true) rfl rfl ((cn_ge (by decide : (0 : Int32).toInt = 0) (rfl : (a2).toInt = (a2).toInt)).trans (decide_eq_true (by omega))) ?_
    refine E_iload rfl rfl ?_
    refine E_if (t := 92) (b := false) rfl rfl (by decide) ?_
    refine E_aload_n rfl rfl ?_
    refine E_iload rfl rfl ?_
    refine E_callV (v := some (.int (-13))) (As := [.ref 65, .int (-3)]) (r0 := []) (cs2 := ((w0.set 48 (.inl [0, 0, 0, 1, 0, 0, 0, 0])).set 66 (.inl [0, 0, 0, 1, 0, 0, 0, 0]))) rfl rfl rfl (Nat.le_of_ble_eq_true rfl) rfl rfl c258_X6_noTen (by decide) (by simp only [List.length_set]) ?_
    exact E_iret rfl rfl, (by simp only [List.length_set]; rfl), (by simp only [List.length_set]; rfl), ((ab_szs rfl).trans ((ab_szs rfl).trans rfl)), fun _ => rfl⟩
theorem f_costs_58 (a2 a3 : Int32) (ha2l : (1 : Int) ≤ a2.toInt) (ha3l : (0 : Int) ≤ a3.toInt) (ha3h : a3.toInt ≤ 7) : p1_P 6 100 4 188 [.ref 0, .int 6, .int a2, .int a3, .int 1] [.ref 65, .int 6, .int a2, .int a3, .int 1] :=
  ⟨(-13), (w0.set 48 (.inl [0, 0, 0, 1, 0, 0, 0, 0])), ((w0.set 48 (.inl [0, 0, 0, 1, 0, 0, 0, 0])).set 66 (.inl [0, 0, 0, 1, 0, 0, 0, 0])), by
    refine Ef.in (md := mX5_costs) (L := [some (.ref 0), some (.int 6), some (.int a2), some (.int a3), some (.int 1), none, none, none, none]) rfl (Nat.le_of_ble_eq_true rfl) rfl ?_
    refine E_iload_n rfl rfl ?_
    have e2 : Ev ab_Z0 1 47 [.int a3] w0 (some (.int 1), w0) := by
      refine Ef.in (md := mX4_isWish) (L := [some (.int a3)]) rfl (Nat.le_of_ble_eq_true rfl) rfl ?_
      refine E_iload_n rfl rfl ?_
      refine E_if (t := 14) (b := false) rfl rfl ((cn_lt (rfl : (a3).toInt = (a3).toInt) (by decide : (0 : Int32).toInt = 0)).trans (decide_eq_false (by omega))) ?_
      refine E_iload_n rfl rfl ?_
      refine E_bipush (x := 8) rfl (by decide) ?_
      refine E_ic (t := 14) (b := false) rfl rfl ((cn_ge (rfl : (a3).toInt = (a3).toInt) (by decide : (8 : Int32).toInt = 8)).trans (decide_eq_false (by omega))) ?_
      refine E_iconst (x := 1) rfl (by decide) ?_
      refine E_goto (t := 15) rfl rfl ?_
      exact E_iret rfl rfl
    refine E_callS (v := some (.int 1)) (As := [.int a3]) (r0 := []) (cs2 := w0) rfl rfl rfl (Nat.le_of_ble_eq_true rfl) rfl e2 (by decide) rfl ?_
    refine E_if (t := 31) (b := false) rfl rfl (by decide) ?_
    refine E_aload_n rfl rfl ?_
    refine E_iload_n rfl rfl ?_
    refine E_iload_n rfl rfl ?_
    refine E_bipush (x := 40) rfl (by decide) ?_
    refine E_iload rfl rfl ?_
    refine E_callS (v := some (.int 1)) (As := [.int 1]) (r0 := [.int 40, .int a2, .int 6, .ref 0]) (cs2 := w0) rfl rfl rfl (Nat.le_of_ble_eq_true rfl) rfl c239_X5_isOneOfTwo (by decide) rfl ?_
    refine E_if (t := 24) (b := true) rfl rfl (by decide) ?_
    refine E_iconst (x := 0) rfl (by decide) ?_
    have e22 : Ev ab_Z0 3 120 [.ref 0, .int 6, .int a2, .int 40, .int 0] w0 (some (.int 3), w0) := by
      refine Ef.in (md := mX5_whyNoTwos) (L := [some (.ref 0), some (.int 6), some (.int a2), some (.int 40), some (.int 0), none]) rfl (Nat.le_of_ble_eq_true rfl) rfl ?_
      refine E_aload_n rfl rfl ?_
      refine E_iload_n rfl rfl ?_
      refine E_callV (v := some (.int 3)) (As := [.ref 0, .int 6]) (r0 := []) (cs2 := w0) rfl rfl rfl (Nat.le_of_ble_eq_true rfl) rfl rfl c56_X5_whyNoRow (by decide) rfl ?_
      refine E_istore (L2 := [some (.ref 0), some (.int 6), some (.int a2), some (.int 40), some (.int 0), some (.int 3)]) rfl rfl ?_
      refine E_iload rfl rfl ?_
      refine E_if (t := 15) (b := false) rfl rfl (by decide) ?_
      refine E_iload rfl rfl ?_
      exact E_iret rfl rfl
    refine E_callV (v := some (.int 3)) (As := [.ref 0, .int 6, .int a2, .int 40, .int 0]) (r0 := []) (cs2 := w0) rfl rfl rfl (Nat.le_of_ble_eq_true rfl) rfl rfl e22 (by decide) rfl ?_
    refine E_goto (t := 32) rfl rfl ?_
    refine E_istore (L2 := [some (.ref 0), some (.int 6), some (.int a2), some (.int a3), some (.int 1), some (.int 3), none, none, none]) rfl rfl ?_
    refine E_iload rfl rfl ?_
    refine E_if (t := 56) (b := true) rfl rfl (by decide) ?_
    refine E_iload rfl rfl ?_
    refine E_if (t := 71) (b := false) rfl rfl (by decide) ?_
    refine E_aload_n rfl rfl ?_
    refine E_iload rfl rfl ?_
    refine E_callV (v := some (.int (-3))) (As := [.ref 0, .int 3]) (r0 := []) (cs2 := (w0.set 48 (.inl [0, 0, 0, 1, 0, 0, 0, 0]))) rfl rfl rfl (Nat.le_of_ble_eq_true rfl) rfl rfl c32_X5_refuse (by decide) (by simp only [List.length_set]) ?_
    refine E_bipush (x := 10) rfl (by decide) ?_
    refine E_isub (z := (-13)) rfl (by decide) ?_
    exact E_iret rfl rfl, by
    refine Ef.in (md := mX6_costs) (L := [some (.ref 65), some (.int 6), some (.int a2), some (.int a3), some (.int 1), none, none, none, none, none, none, none]) rfl (Nat.le_of_ble_eq_true rfl) rfl ?_
    refine E_aload_n rfl rfl ?_
    refine E_iload_n rfl rfl ?_
    refine E_iconst (x := 0) rfl (by decide) ?_
    refine E_bipush (x := 7) rfl (by decide) ?_
    have e5 : Ev ab_Z0 1 134 [.ref 65, .int a3, .int 0, .int 7] (w0.set 48 (.inl [0, 0, 0, 1, 0, 0, 0, 0])) (some (.int 1), (w0.set 48 (.inl [0, 0, 0, 1, 0, 0, 0, 0]))) := by
      refine Ef.in (md := mX6_isFrom) (L := [some (.ref 65), some (.int a3), some (.int 0), some (.int 7)]) rfl (Nat.le_of_ble_eq_true rfl) rfl ?_
      refine E_iload_n rfl rfl ?_
      refine E_iload_n rfl rfl ?_
      refine E_ic (t := 14) (b := false) rfl rfl ((cn_lt (rfl : (a3).toInt = (a3).toInt) (by decide : (0 : Int32).toInt = 0)).trans (decide_eq_false (by omega))) ?_
      refine E_iload_n rfl rfl ?_
      refine E_iload_n rfl rfl ?_
      refine E_ic (t := 14) (b := false) rfl rfl ((cn_gt (rfl : (a3).toInt = (a3).toInt) (by decide : (7 : Int32).toInt = 7)).trans (decide_eq_false (by omega))) ?_
      refine E_iconst (x := 1) rfl (by decide) ?_
      refine E_goto (t := 15) rfl rfl ?_
      exact E_iret rfl rfl
    refine E_callV (v := some (.int 1)) (As := [.ref 65, .int a3, .int 0, .int 7]) (r0 := []) (cs2 := (w0.set 48 (.inl [0, 0, 0, 1, 0, 0, 0, 0]))) rfl rfl rfl (Nat.le_of_ble_eq_true rfl) rfl rfl e5 (by decide) rfl ?_
    refine E_if (t := 15) (b := true) rfl rfl (by decide) ?_
    refine E_aload_n rfl rfl ?_
    refine E_iload_n rfl rfl ?_
    refine E_iload_n rfl rfl ?_
    refine E_bipush (x := 40) rfl (by decide) ?_
    refine E_iload rfl rfl ?_
    refine E_if (t := 31) (b := false) rfl rfl (by decide) ?_
    refine E_iload rfl rfl ?_
    refine E_iconst (x := 1) rfl (by decide) ?_
    refine E_ic (t := 35) (b := false) rfl rfl (by decide) ?_
    refine E_iconst (x := 1) rfl (by decide) ?_
    refine E_goto (t := 36) rfl rfl ?_
    have e29 : Ev ab_Z0 3 186 [.ref 65, .int 6, .int a2, .int 40, .int 1] (w0.set 48 (.inl [0, 0, 0, 1, 0, 0, 0, 0])) (some (.int (-3)), (w0.set 48 (.inl [0, 0, 0, 1, 0, 0, 0, 0]))) := by
      refine Ef.in (md := mX6_barsOf) (L := [some (.ref 65), some (.int 6), some (.int a2), some (.int 40), some (.int 1), none]) rfl (Nat.le_of_ble_eq_true rfl) rfl ?_
      refine E_aload_n rfl rfl ?_
      refine E_iload_n rfl rfl ?_
      refine E_callV (v := some (.int (-3))) (As := [.ref 65, .int 6]) (r0 := []) (cs2 := (w0.set 48 (.inl [0, 0, 0, 1, 0, 0, 0, 0]))) rfl rfl rfl (Nat.le_of_ble_eq_true rfl) rfl rfl c223_X6_wanted (by decide) rfl ?_
      refine E_istore (L2 := [some (.ref 65), some (.int 6), some (.int a2), some (.int 40), some (.int 1), some (.int (-3))]) rfl rfl ?_
      refine E_iload rfl rfl ?_
      refine E_if (t := 17) (b := false) rfl rfl (by decide) ?_
      refine E_iload rfl rfl ?_
      refine E_goto (t := 59) rfl rfl ?_
      exact E_iret rfl rfl
    refine E_callV (v := some (.int (-3))) (As := [.ref 65, .int 6, .int a2, .int 40, .int 1]) (r0 := []) (cs2 := (w0.set 48 (.inl [0, 0, 0, 1, 0, 0, 0, 0]))) rfl rfl rfl (Nat.le_of_ble_eq_true rfl) rfl rfl e29 (by decide) rfl ?_
    refine E_istore (L2 := [some (.ref 65), some (.int 6), some (.int a2), some (.int a3), some (.int 1), some (.int (-3)), none, none, none, none, none, none]) rfl rfl ?_
    refine E_iconst (x := 0) rfl (by decide) ?_
    refine E_istore (L2 := [some (.ref 65), some (.int 6), some (.int a2), some (.int a3), some (.int 1), some (.int (-3)), some (.int 0), none, none, none, none, none]) rfl rfl ?_
    refine E_iload rfl rfl ?_
    refine E_iload_n rfl rfl ?_
    refine E_ic (t := 80) (b := false) rfl rfl ((cn_ge (by decide : (0 : Int32).toInt = 0) (rfl : (a2).toInt = (a2).toInt)).trans (decide_eq_false (by omega))) ?_
    refine E_iload rfl rfl ?_
    refine E_if (t := 80) (b := true) rfl rfl (by decide) ?_
    refine E_iload rfl rfl ?_
    refine E_if (t := 92) (b := false) rfl rfl (by decide) ?_
    refine E_aload_n rfl rfl ?_
    refine E_iload rfl rfl ?_
    refine E_callV (v := some (.int (-13))) (As := [.ref 65, .int (-3)]) (r0 := []) (cs2 := ((w0.set 48 (.inl [0, 0, 0, 1, 0, 0, 0, 0])).set 66 (.inl [0, 0, 0, 1, 0, 0, 0, 0]))) rfl rfl rfl (Nat.le_of_ble_eq_true rfl) rfl rfl c258_X6_noTen (by decide) (by simp only [List.length_set]) ?_
    exact E_iret rfl rfl, (by simp only [List.length_set]; rfl), (by simp only [List.length_set]; rfl), ((ab_szs rfl).trans ((ab_szs rfl).trans rfl)), fun _ => rfl⟩
theorem f_costs_59 (a2 a3 : Int32) (ha2h : a2.toInt ≤ 0) (ha3l : (0 : Int) ≤ a3.toInt) (ha3h : a3.toInt ≤ 7) : p1_P 6 100 4 188 [.ref 0, .int 7, .int a2, .int a3, .int 1] [.ref 65, .int 7, .int a2, .int a3, .int 1] :=
  ⟨(-13), (w0.set 48 (.inl [0, 0, 0, 1, 0, 0, 0, 0])), ((w0.set 48 (.inl [0, 0, 0, 1, 0, 0, 0, 0])).set 66 (.inl [0, 0, 0, 1, 0, 0, 0, 0])), by
    refine Ef.in (md := mX5_costs) (L := [some (.ref 0), some (.int 7), some (.int a2), some (.int a3), some (.int 1), none, none, none, none]) rfl (Nat.le_of_ble_eq_true rfl) rfl ?_
    refine E_iload_n rfl rfl ?_
    have e2 : Ev ab_Z0 1 47 [.int a3] w0 (some (.int 1), w0) := by
      refine Ef.in (md := mX4_isWish) (L := [some (.int a3)]) rfl (Nat.le_of_ble_eq_true rfl) rfl ?_
      refine E_iload_n rfl rfl ?_
      refine E_if (t := 14) (b := false) rfl rfl ((cn_lt (rfl : (a3).toInt = (a3).toInt) (by decide : (0 : Int32).toInt = 0)).trans (decide_eq_false (by omega))) ?_
      refine E_iload_n rfl rfl ?_
      refine E_bipush (x := 8) rfl (by decide) ?_
      refine E_ic (t := 14) (b := false) rfl rfl ((cn_ge (rfl : (a3).toInt = (a3).toInt) (by decide : (8 : Int32).toInt = 8)).trans (decide_eq_false (by omega))) ?_
      refine E_iconst (x := 1) rfl (by decide) ?_
      refine E_goto (t := 15) rfl rfl ?_
      exact E_iret rfl rfl
    refine E_callS (v := some (.int 1)) (As := [.int a3]) (r0 := []) (cs2 := w0) rfl rfl rfl (Nat.le_of_ble_eq_true rfl) rfl e2 (by decide) rfl ?_
    refine E_if (t := 31) (b := false) rfl rfl (by decide) ?_
    refine E_aload_n rfl rfl ?_
    refine E_iload_n rfl rfl ?_
    refine E_iload_n rfl rfl ?_
    refine E_bipush (x := 40) rfl (by decide) ?_
    refine E_iload rfl rfl ?_
    refine E_callS (v := some (.int 1)) (As := [.int 1]) (r0 := [.int 40, .int a2, .int 7, .ref 0]) (cs2 := w0) rfl rfl rfl (Nat.le_of_ble_eq_true rfl) rfl c239_X5_isOneOfTwo (by decide) rfl ?_
    refine E_if (t := 24) (b := true) rfl rfl (by decide) ?_
    refine E_iconst (x := 0) rfl (by decide) ?_
    have e22 : Ev ab_Z0 3 120 [.ref 0, .int 7, .int a2, .int 40, .int 0] w0 (some (.int 3), w0) := by
      refine Ef.in (md := mX5_whyNoTwos) (L := [some (.ref 0), some (.int 7), some (.int a2), some (.int 40), some (.int 0), none]) rfl (Nat.le_of_ble_eq_true rfl) rfl ?_
      refine E_aload_n rfl rfl ?_
      refine E_iload_n rfl rfl ?_
      refine E_callV (v := some (.int 3)) (As := [.ref 0, .int 7]) (r0 := []) (cs2 := w0) rfl rfl rfl (Nat.le_of_ble_eq_true rfl) rfl rfl c60_X5_whyNoRow (by decide) rfl ?_
      refine E_istore (L2 := [some (.ref 0), some (.int 7), some (.int a2), some (.int 40), some (.int 0), some (.int 3)]) rfl rfl ?_
      refine E_iload rfl rfl ?_
      refine E_if (t := 15) (b := false) rfl rfl (by decide) ?_
      refine E_iload rfl rfl ?_
      exact E_iret rfl rfl
    refine E_callV (v := some (.int 3)) (As := [.ref 0, .int 7, .int a2, .int 40, .int 0]) (r0 := []) (cs2 := w0) rfl rfl rfl (Nat.le_of_ble_eq_true rfl) rfl rfl e22 (by decide) rfl ?_
    refine E_goto (t := 32) rfl rfl ?_
    refine E_istore (L2 := [some (.ref 0), some (.int 7), some (.int a2), some (.int a3), some (.int 1), some (.int 3), none, none, none]) rfl rfl ?_
    refine E_iload rfl rfl ?_
    refine E_if (t := 56) (b := true) rfl rfl (by decide) ?_
    refine E_iload rfl rfl ?_
    refine E_if (t := 71) (b := false) rfl rfl (by decide) ?_
    refine E_aload_n rfl rfl ?_
    refine E_iload rfl rfl ?_
    refine E_callV (v := some (.int (-3))) (As := [.ref 0, .int 3]) (r0 := []) (cs2 := (w0.set 48 (.inl [0, 0, 0, 1, 0, 0, 0, 0]))) rfl rfl rfl (Nat.le_of_ble_eq_true rfl) rfl rfl c32_X5_refuse (by decide) (by simp only [List.length_set]) ?_
    refine E_bipush (x := 10) rfl (by decide) ?_
    refine E_isub (z := (-13)) rfl (by decide) ?_
    exact E_iret rfl rfl, by
    refine Ef.in (md := mX6_costs) (L := [some (.ref 65), some (.int 7), some (.int a2), some (.int a3), some (.int 1), none, none, none, none, none, none, none]) rfl (Nat.le_of_ble_eq_true rfl) rfl ?_
    refine E_aload_n rfl rfl ?_
    refine E_iload_n rfl rfl ?_
    refine E_iconst (x := 0) rfl (by decide) ?_
    refine E_bipush (x := 7) rfl (by decide) ?_
    have e5 : Ev ab_Z0 1 134 [.ref 65, .int a3, .int 0, .int 7] (w0.set 48 (.inl [0, 0, 0, 1, 0, 0, 0, 0])) (some (.int 1), (w0.set 48 (.inl [0, 0, 0, 1, 0, 0, 0, 0]))) := by
      refine Ef.in (md := mX6_isFrom) (L := [some (.ref 65), some (.int a3), some (.int 0), some (.int 7)]) rfl (Nat.le_of_ble_eq_true rfl) rfl ?_
      refine E_iload_n rfl rfl ?_
      refine E_iload_n rfl rfl ?_
      refine E_ic (t := 14) (b := false) rfl rfl ((cn_lt (rfl : (a3).toInt = (a3).toInt) (by decide : (0 : Int32).toInt = 0)).trans (decide_eq_false (by omega))) ?_
      refine E_iload_n rfl rfl ?_
      refine E_iload_n rfl rfl ?_
      refine E_ic (t := 14) (b := false) rfl rfl ((cn_gt (rfl : (a3).toInt = (a3).toInt) (by decide : (7 : Int32).toInt = 7)).trans (decide_eq_false (by omega))) ?_
      refine E_iconst (x := 1) rfl (by decide) ?_
      refine E_goto (t := 15) rfl rfl ?_
      exact E_iret rfl rfl
    refine E_callV (v := some (.int 1)) (As := [.ref 65, .int a3, .int 0, .int 7]) (r0 := []) (cs2 := (w0.set 48 (.inl [0, 0, 0, 1, 0, 0, 0, 0]))) rfl rfl rfl (Nat.le_of_ble_eq_true rfl) rfl rfl e5 (by decide) rfl ?_
    refine E_if (t := 15) (b := true) rfl rfl (by decide) ?_
    refine E_aload_n rfl rfl ?_
    refine E_iload_n rfl rfl ?_
    refine E_iload_n rfl rfl ?_
    refine E_bipush (x := 40) rfl (by decide) ?_
    refine E_iload rfl rfl ?_
    refine E_if (t := 31) (b := false) rfl rfl (by decide) ?_
    refine E_iload rfl rfl ?_
    refine E_iconst (x := 1) rfl (by decide) ?_
    refine E_ic (t := 35) (b := false) rfl rfl (by decide) ?_
    refine E_iconst (x := 1) rfl (by decide) ?_
    refine E_goto (t := 36) rfl rfl ?_
    have e29 : Ev ab_Z0 3 186 [.ref 65, .int 7, .int a2, .int 40, .int 1] (w0.set 48 (.inl [0, 0, 0, 1, 0, 0, 0, 0])) (some (.int (-3)), (w0.set 48 (.inl [0, 0, 0, 1, 0, 0, 0, 0]))) := by
      refine Ef.in (md := mX6_barsOf) (L := [some (.ref 65), some (.int 7), some (.int a2), some (.int 40), some (.int 1), none]) rfl (Nat.le_of_ble_eq_true rfl) rfl ?_
      refine E_aload_n rfl rfl ?_
      refine E_iload_n rfl rfl ?_
      refine E_callV (v := some (.int (-3))) (As := [.ref 65, .int 7]) (r0 := []) (cs2 := (w0.set 48 (.inl [0, 0, 0, 1, 0, 0, 0, 0]))) rfl rfl rfl (Nat.le_of_ble_eq_true rfl) rfl rfl c226_X6_wanted (by decide) rfl ?_
      refine E_istore (L2 := [some (.ref 65), some (.int 7), some (.int a2), some (.int 40), some (.int 1), some (.int (-3))]) rfl rfl ?_
      refine E_iload rfl rfl ?_
      refine E_if (t := 17) (b := false) rfl rfl (by decide) ?_
      refine E_iload rfl rfl ?_
      refine E_goto (t := 59) rfl rfl ?_
      exact E_iret rfl rfl
    refine E_callV (v := some (.int (-3))) (As := [.ref 65, .int 7, .int a2, .int 40, .int 1]) (r0 := []) (cs2 := (w0.set 48 (.inl [0, 0, 0, 1, 0, 0, 0, 0]))) rfl rfl rfl (Nat.le_of_ble_eq_true rfl) rfl rfl e29 (by decide) rfl ?_
    refine E_istore (L2 := [some (.ref 65), some (.int 7), some (.int a2), some (.int a3), some (.int 1), some (.int (-3)), none, none, none, none, none, none]) rfl rfl ?_
    refine E_iconst (x := 0) rfl (by decide) ?_
    refine E_istore (L2 := [some (.ref 65), some (.int 7), some (.int a2), some (.int a3), some (.int 1), some (.int (-3)), some (.int 0), none, none, none, none, none]) rfl rfl ?_
    refine E_iload rfl rfl ?_
    refine E_iload_n rfl rfl ?_
    refine E_ic (t := 80) (b := true) rfl rfl ((cn_ge (by decide : (0 : Int32).toInt = 0) (rfl : (a2).toInt = (a2).toInt)).trans (decide_eq_true (by omega))) ?_
    refine E_iload rfl rfl ?_
    refine E_if (t := 92) (b := false) rfl rfl (by decide) ?_
    refine E_aload_n rfl rfl ?_
    refine E_iload rfl rfl ?_
    refine E_callV (v := some (.int (-13))) (As := [.ref 65, .int (-3)]) (r0 := []) (cs2 := ((w0.set 48 (.inl [0, 0, 0, 1, 0, 0, 0, 0])).set 66 (.inl [0, 0, 0, 1, 0, 0, 0, 0]))) rfl rfl rfl (Nat.le_of_ble_eq_true rfl) rfl rfl c258_X6_noTen (by decide) (by simp only [List.length_set]) ?_
    exact E_iret rfl rfl, (by simp only [List.length_set]; rfl), (by simp only [List.length_set]; rfl), ((ab_szs rfl).trans ((ab_szs rfl).trans rfl)), fun _ => rfl⟩
theorem f_costs_60 (a2 a3 : Int32) (ha2l : (1 : Int) ≤ a2.toInt) (ha3l : (0 : Int) ≤ a3.toInt) (ha3h : a3.toInt ≤ 7) : p1_P 6 100 4 188 [.ref 0, .int 7, .int a2, .int a3, .int 1] [.ref 65, .int 7, .int a2, .int a3, .int 1] :=
  ⟨(-13), (w0.set 48 (.inl [0, 0, 0, 1, 0, 0, 0, 0])), ((w0.set 48 (.inl [0, 0, 0, 1, 0, 0, 0, 0])).set 66 (.inl [0, 0, 0, 1, 0, 0, 0, 0])), by
    refine Ef.in (md := mX5_costs) (L := [some (.ref 0), some (.int 7), some (.int a2), some (.int a3), some (.int 1), none, none, none, none]) rfl (Nat.le_of_ble_eq_true rfl) rfl ?_
    refine E_iload_n rfl rfl ?_
    have e2 : Ev ab_Z0 1 47 [.int a3] w0 (some (.int 1), w0) := by
      refine Ef.in (md := mX4_isWish) (L := [some (.int a3)]) rfl (Nat.le_of_ble_eq_true rfl) rfl ?_
      refine E_iload_n rfl rfl ?_
      refine E_if (t := 14) (b := false) rfl rfl ((cn_lt (rfl : (a3).toInt = (a3).toInt) (by decide : (0 : Int32).toInt = 0)).trans (decide_eq_false (by omega))) ?_
      refine E_iload_n rfl rfl ?_
      refine E_bipush (x := 8) rfl (by decide) ?_
      refine E_ic (t := 14) (b := false) rfl rfl ((cn_ge (rfl : (a3).toInt = (a3).toInt) (by decide : (8 : Int32).toInt = 8)).trans (decide_eq_false (by omega))) ?_
      refine E_iconst (x := 1) rfl (by decide) ?_
      refine E_goto (t := 15) rfl rfl ?_
      exact E_iret rfl rfl
    refine E_callS (v := some (.int 1)) (As := [.int a3]) (r0 := []) (cs2 := w0) rfl rfl rfl (Nat.le_of_ble_eq_true rfl) rfl e2 (by decide) rfl ?_
    refine E_if (t := 31) (b := false) rfl rfl (by decide) ?_
    refine E_aload_n rfl rfl ?_
    refine E_iload_n rfl rfl ?_
    refine E_iload_n rfl rfl ?_
    refine E_bipush (x := 40) rfl (by decide) ?_
    refine E_iload rfl rfl ?_
    refine E_callS (v := some (.int 1)) (As := [.int 1]) (r0 := [.int 40, .int a2, .int 7, .ref 0]) (cs2 := w0) rfl rfl rfl (Nat.le_of_ble_eq_true rfl) rfl c239_X5_isOneOfTwo (by decide) rfl ?_
    refine E_if (t := 24) (b := true) rfl rfl (by decide) ?_
    refine E_iconst (x := 0) rfl (by decide) ?_
    have e22 : Ev ab_Z0 3 120 [.ref 0, .int 7, .int a2, .int 40, .int 0] w0 (some (.int 3), w0) := by
      refine Ef.in (md := mX5_whyNoTwos) (L := [some (.ref 0), some (.int 7), some (.int a2), some (.int 40), some (.int 0), none]) rfl (Nat.le_of_ble_eq_true rfl) rfl ?_
      refine E_aload_n rfl rfl ?_
      refine E_iload_n rfl rfl ?_
      refine E_callV (v := some (.int 3)) (As := [.ref 0, .int 7]) (r0 := []) (cs2 := w0) rfl rfl rfl (Nat.le_of_ble_eq_true rfl) rfl rfl c60_X5_whyNoRow (by decide) rfl ?_
      refine E_istore (L2 := [some (.ref 0), some (.int 7), some (.int a2), some (.int 40), some (.int 0), some (.int 3)]) rfl rfl ?_
      refine E_iload rfl rfl ?_
      refine E_if (t := 15) (b := false) rfl rfl (by decide) ?_
      refine E_iload rfl rfl ?_
      exact E_iret rfl rfl
    refine E_callV (v := some (.int 3)) (As := [.ref 0, .int 7, .int a2, .int 40, .int 0]) (r0 := []) (cs2 := w0) rfl rfl rfl (Nat.le_of_ble_eq_true rfl) rfl rfl e22 (by decide) rfl ?_
    refine E_goto (t := 32) rfl rfl ?_
    refine E_istore (L2 := [some (.ref 0), some (.int 7), some (.int a2), some (.int a3), some (.int 1), some (.int 3), none, none, none]) rfl rfl ?_
    refine E_iload rfl rfl ?_
    refine E_if (t := 56) (b := true) rfl rfl (by decide) ?_
    refine E_iload rfl rfl ?_
    refine E_if (t := 71) (b := false) rfl rfl (by decide) ?_
    refine E_aload_n rfl rfl ?_
    refine E_iload rfl rfl ?_
    refine E_callV (v := some (.int (-3))) (As := [.ref 0, .int 3]) (r0 := []) (cs2 := (w0.set 48 (.inl [0, 0, 0, 1, 0, 0, 0, 0]))) rfl rfl rfl (Nat.le_of_ble_eq_true rfl) rfl rfl c32_X5_refuse (by decide) (by simp only [List.length_set]) ?_
    refine E_bipush (x := 10) rfl (by decide) ?_
    refine E_isub (z := (-13)) rfl (by decide) ?_
    exact E_iret rfl rfl, by
    refine Ef.in (md := mX6_costs) (L := [some (.ref 65), some (.int 7), some (.int a2), some (.int a3), some (.int 1), none, none, none, none, none, none, none]) rfl (Nat.le_of_ble_eq_true rfl) rfl ?_
    refine E_aload_n rfl rfl ?_
    refine E_iload_n rfl rfl ?_
    refine E_iconst (x := 0) rfl (by decide) ?_
    refine E_bipush (x := 7) rfl (by decide) ?_
    have e5 : Ev ab_Z0 1 134 [.ref 65, .int a3, .int 0, .int 7] (w0.set 48 (.inl [0, 0, 0, 1, 0, 0, 0, 0])) (some (.int 1), (w0.set 48 (.inl [0, 0, 0, 1, 0, 0, 0, 0]))) := by
      refine Ef.in (md := mX6_isFrom) (L := [some (.ref 65), some (.int a3), some (.int 0), some (.int 7)]) rfl (Nat.le_of_ble_eq_true rfl) rfl ?_
      refine E_iload_n rfl rfl ?_
      refine E_iload_n rfl rfl ?_
      refine E_ic (t := 14) (b := false) rfl rfl ((cn_lt (rfl : (a3).toInt = (a3).toInt) (by decide : (0 : Int32).toInt = 0)).trans (decide_eq_false (by omega))) ?_
      refine E_iload_n rfl rfl ?_
      refine E_iload_n rfl rfl ?_
      refine E_ic (t := 14) (b := false) rfl rfl ((cn_gt (rfl : (a3).toInt = (a3).toInt) (by decide : (7 : Int32).toInt = 7)).trans (decide_eq_false (by omega))) ?_
      refine E_iconst (x := 1) rfl (by decide) ?_
      refine E_goto (t := 15) rfl rfl ?_
      exact E_iret rfl rfl
    refine E_callV (v := some (.int 1)) (As := [.ref 65, .int a3, .int 0, .int 7]) (r0 := []) (cs2 := (w0.set 48 (.inl [0, 0, 0, 1, 0, 0, 0, 0]))) rfl rfl rfl (Nat.le_of_ble_eq_true rfl) rfl rfl e5 (by decide) rfl ?_
    refine E_if (t := 15) (b := true) rfl rfl (by decide) ?_
    refine E_aload_n rfl rfl ?_
    refine E_iload_n rfl rfl ?_
    refine E_iload_n rfl rfl ?_
    refine E_bipush (x := 40) rfl (by decide) ?_
    refine E_iload rfl rfl ?_
    refine E_if (t := 31) (b := false) rfl rfl (by decide) ?_
    refine E_iload rfl rfl ?_
    refine E_iconst (x := 1) rfl (by decide) ?_
    refine E_ic (t := 35) (b := false) rfl rfl (by decide) ?_
    refine E_iconst (x := 1) rfl (by decide) ?_
    refine E_goto (t := 36) rfl rfl ?_
    have e29 : Ev ab_Z0 3 186 [.ref 65, .int 7, .int a2, .int 40, .int 1] (w0.set 48 (.inl [0, 0, 0, 1, 0, 0, 0, 0])) (some (.int (-3)), (w0.set 48 (.inl [0, 0, 0, 1, 0, 0, 0, 0]))) := by
      refine Ef.in (md := mX6_barsOf) (L := [some (.ref 65), some (.int 7), some (.int a2), some (.int 40), some (.int 1), none]) rfl (Nat.le_of_ble_eq_true rfl) rfl ?_
      refine E_aload_n rfl rfl ?_
      refine E_iload_n rfl rfl ?_
      refine E_callV (v := some (.int (-3))) (As := [.ref 65, .int 7]) (r0 := []) (cs2 := (w0.set 48 (.inl [0, 0, 0, 1, 0, 0, 0, 0]))) rfl rfl rfl (Nat.le_of_ble_eq_true rfl) rfl rfl c226_X6_wanted (by decide) rfl ?_
      refine E_istore (L2 := [some (.ref 65), some (.int 7), some (.int a2), some (.int 40), some (.int 1), some (.int (-3))]) rfl rfl ?_
      refine E_iload rfl rfl ?_
      refine E_if (t := 17) (b := false) rfl rfl (by decide) ?_
      refine E_iload rfl rfl ?_
      refine E_goto (t := 59) rfl rfl ?_
      exact E_iret rfl rfl
    refine E_callV (v := some (.int (-3))) (As := [.ref 65, .int 7, .int a2, .int 40, .int 1]) (r0 := []) (cs2 := (w0.set 48 (.inl [0, 0, 0, 1, 0, 0, 0, 0]))) rfl rfl rfl (Nat.le_of_ble_eq_true rfl) rfl rfl e29 (by decide) rfl ?_
    refine E_istore (L2 := [some (.ref 65), some (.int 7), some (.int a2), some (.int a3), some (.int 1), some (.int (-3)), none, none, none, none, none, none]) rfl rfl ?_
    refine E_iconst (x := 0) rfl (by decide) ?_
    refine E_istore (L2 := [some (.ref 65), some (.int 7), some (.int a2), some (.int a3), some (.int 1), some (.int (-3)), some (.int 0), none, none, none, none, none]) rfl rfl ?_
    refine E_iload rfl rfl ?_
    refine E_iload_n rfl rfl ?_
    refine E_ic (t := 80) (b := false) rfl rfl ((cn_ge (by decide : (0 : Int32).toInt = 0) (rfl : (a2).toInt = (a2).toInt)).trans (decide_eq_false (by omega))) ?_
    refine E_iload rfl rfl ?_
    refine E_if (t := 80) (b := true) rfl rfl (by decide) ?_
    refine E_iload rfl rfl ?_
    refine E_if (t := 92) (b := false) rfl rfl (by decide) ?_
    refine E_aload_n rfl rfl ?_
    refine E_iload rfl rfl ?_
    refine E_callV (v := some (.int (-13))) (As := [.ref 65, .int (-3)]) (r0 := []) (cs2 := ((w0.set 48 (.inl [0, 0, 0, 1, 0, 0, 0, 0])).set 66 (.inl [0, 0, 0, 1, 0, 0, 0, 0]))) rfl rfl rfl (Nat.le_of_ble_eq_true rfl) rfl rfl c258_X6_noTen (by decide) (by simp only [List.length_set]) ?_
    exact E_iret rfl rfl, (by simp only [List.length_set]; rfl), (by simp only [List.length_set]; rfl), ((ab_szs rfl).trans ((ab_szs rfl).trans rfl)), fun _ => rfl⟩
theorem f_costs_61 (a1 a2 a3 : Int32) (ha1l : (8 : Int) ≤ a1.toInt) (ha2h : a2.toInt ≤ 0) (ha3l : (0 : Int) ≤ a3.toInt) (ha3h : a3.toInt ≤ 7) : p1_P 6 100 4 188 [.ref 0, .int a1, .int a2, .int a3, .int 1] [.ref 65, .int a1, .int a2, .int a3, .int 1] :=
  ⟨(-11), (w0.set 48 (.inl [0, 1, 0, 0, 0, 0, 0, 0])), ((w0.set 48 (.inl [0, 1, 0, 0, 0, 0, 0, 0])).set 66 (.inl [0, 1, 0, 0, 0, 0, 0, 0])), by
    refine Ef.in (md := mX5_costs) (L := [some (.ref 0), some (.int a1), some (.int a2), some (.int a3), some (.int 1), none, none, none, none]) rfl (Nat.le_of_ble_eq_true rfl) rfl ?_
    refine E_iload_n rfl rfl ?_
    have e2 : Ev ab_Z0 1 47 [.int a3] w0 (some (.int 1), w0) := by
      refine Ef.in (md := mX4_isWish) (L := [some (.int a3)]) rfl (Nat.le_of_ble_eq_true rfl) rfl ?_
      refine E_iload_n rfl rfl ?_
      refine E_if (t := 14) (b := false) rfl rfl ((cn_lt (rfl : (a3).toInt = (a3).toInt) (by decide : (0 : Int32).toInt = 0)).trans (decide_eq_false (by omega))) ?_
      refine E_iload_n rfl rfl ?_
      refine E_bipush (x := 8) rfl (by decide) ?_
      refine E_ic (t := 14) (b := false) rfl rfl ((cn_ge (rfl : (a3).toInt = (a3).toInt) (by decide : (8 : Int32).toInt = 8)).trans (decide_eq_false (by omega))) ?_
      refine E_iconst (x := 1) rfl (by decide) ?_
      refine E_goto (t := 15) rfl rfl ?_
      exact E_iret rfl rfl
    refine E_callS (v := some (.int 1)) (As := [.int a3]) (r0 := []) (cs2 := w0) rfl rfl rfl (Nat.le_of_ble_eq_true rfl) rfl e2 (by decide) rfl ?_
    refine E_if (t := 31) (b := false) rfl rfl (by decide) ?_
    refine E_aload_n rfl rfl ?_
    refine E_iload_n rfl rfl ?_
    refine E_iload_n rfl rfl ?_
    refine E_bipush (x := 40) rfl (by decide) ?_
    refine E_iload rfl rfl ?_
    refine E_callS (v := some (.int 1)) (As := [.int 1]) (r0 := [.int 40, .int a2, .int a1, .ref 0]) (cs2 := w0) rfl rfl rfl (Nat.le_of_ble_eq_true rfl) rfl c239_X5_isOneOfTwo (by decide) rfl ?_
    refine E_if (t := 24) (b := true) rfl rfl (by decide) ?_
    refine E_iconst (x := 0) rfl (by decide) ?_
    have e22 : Ev ab_Z0 3 120 [.ref 0, .int a1, .int a2, .int 40, .int 0] w0 (some (.int 1), w0) := by
      refine Ef.in (md := mX5_whyNoTwos) (L := [some (.ref 0), some (.int a1), some (.int a2), some (.int 40), some (.int 0), none]) rfl (Nat.le_of_ble_eq_true rfl) rfl ?_
      refine E_aload_n rfl rfl ?_
      refine E_iload_n rfl rfl ?_
      have e3 : Ev ab_Z0 2 119 [.ref 0, .int a1] w0 (some (.int 1), w0) := by
        refine Ef.in (md := mX5_whyNoRow) (L := [some (.ref 0), some (.int a1)]) rfl (Nat.le_of_ble_eq_true rfl) rfl ?_
        refine E_iload_n rfl rfl ?_
        have e2 : Ev ab_Z0 1 117 [.int a1] w0 (some (.int 0), w0) := by
          refine Ef.in (md := mX5_isShelf) (L := [some (.int a1)]) rfl (Nat.le_of_ble_eq_true rfl) rfl ?_
          refine E_iload_n rfl rfl ?_
          refine E_if (t := 14) (b := false) rfl rfl ((cn_lt (rfl : (a1).toInt = (a1).toInt) (by decide : (0 : Int32).toInt = 0)).trans (decide_eq_false (by omega))) ?_
          refine E_iload_n rfl rfl ?_
          refine E_bipush (x := 8) rfl (by decide) ?_
          refine E_ic (t := 14) (b := true) rfl rfl ((cn_ge (rfl : (a1).toInt = (a1).toInt) (by decide : (8 : Int32).toInt = 8)).trans (decide_eq_true (by omega))) ?_
          refine E_iconst (x := 0) rfl (by decide) ?_
          exact E_iret rfl rfl
        refine E_callS (v := some (.int 0)) (As := [.int a1]) (r0 := []) (cs2 := w0) rfl rfl rfl (Nat.le_of_ble_eq_true rfl) rfl e2 (by decide) rfl ?_
        refine E_if (t := 9) (b := false) rfl rfl (by decide) ?_
        refine E_iconst (x := 1) rfl (by decide) ?_
        exact E_iret rfl rfl
      refine E_callV (v := some (.int 1)) (As := [.ref 0, .int a1]) (r0 := []) (cs2 := w0) rfl rfl rfl (Nat.le_of_ble_eq_true rfl) rfl rfl e3 (by decide) rfl ?_
      refine E_istore (L2 := [some (.ref 0), some (.int a1), some (.int a2), some (.int 40), some (.int 0), some (.int 1)]) rfl rfl ?_
      refine E_iload rfl rfl ?_
      refine E_if (t := 15) (b := false) rfl rfl (by decide) ?_
      refine E_iload rfl rfl ?_
      exact E_iret rfl rfl
    refine E_callV (v := some (.int 1)) (As := [.ref 0, .int a1, .int a2, .int 40, .int 0]) (r0 := []) (cs2 := w0) rfl rfl rfl (Nat.le_of_ble_eq_true rfl) rfl rfl e22 (by decide) rfl ?_
    refine E_goto (t := 32) rfl rfl ?_
    refine E_istore (L2 := [some (.ref 0), some (.int a1), some (.int a2), some (.int a3), some (.int 1), some (.int 1), none, none, none]) rfl rfl ?_
    refine E_iload rfl rfl ?_
    refine E_if (t := 56) (b := true) rfl rfl (by decide) ?_
    refine E_iload rfl rfl ?_
    refine E_if (t := 71) (b := false) rfl rfl (by decide) ?_
    refine E_aload_n rfl rfl ?_
    refine E_iload rfl rfl ?_
    refine E_callV (v := some (.int (-1))) (As := [.ref 0, .int 1]) (r0 := []) (cs2 := (w0.set 48 (.inl [0, 1, 0, 0, 0, 0, 0, 0]))) rfl rfl rfl (Nat.le_of_ble_eq_true rfl) rfl rfl c1_X5_refuse (by decide) (by simp only [List.length_set]) ?_
    refine E_bipush (x := 10) rfl (by decide) ?_
    refine E_isub (z := (-11)) rfl (by decide) ?_
    exact E_iret rfl rfl, by
    refine Ef.in (md := mX6_costs) (L := [some (.ref 65), some (.int a1), some (.int a2), some (.int a3), some (.int 1), none, none, none, none, none, none, none]) rfl (Nat.le_of_ble_eq_true rfl) rfl ?_
    refine E_aload_n rfl rfl ?_
    refine E_iload_n rfl rfl ?_
    refine E_iconst (x := 0) rfl (by decide) ?_
    refine E_bipush (x := 7) rfl (by decide) ?_
    have e5 : Ev ab_Z0 1 134 [.ref 65, .int a3, .int 0, .int 7] (w0.set 48 (.inl [0, 1, 0, 0, 0, 0, 0, 0])) (some (.int 1), (w0.set 48 (.inl [0, 1, 0, 0, 0, 0, 0, 0]))) := by
      refine Ef.in (md := mX6_isFrom) (L := [some (.ref 65), some (.int a3), some (.int 0), some (.int 7)]) rfl (Nat.le_of_ble_eq_true rfl) rfl ?_
      refine E_iload_n rfl rfl ?_
      refine E_iload_n rfl rfl ?_
      refine E_ic (t := 14) (b := false) rfl rfl ((cn_lt (rfl : (a3).toInt = (a3).toInt) (by decide : (0 : Int32).toInt = 0)).trans (decide_eq_false (by omega))) ?_
      refine E_iload_n rfl rfl ?_
      refine E_iload_n rfl rfl ?_
      refine E_ic (t := 14) (b := false) rfl rfl ((cn_gt (rfl : (a3).toInt = (a3).toInt) (by decide : (7 : Int32).toInt = 7)).trans (decide_eq_false (by omega))) ?_
      refine E_iconst (x := 1) rfl (by decide) ?_
      refine E_goto (t := 15) rfl rfl ?_
      exact E_iret rfl rfl
    refine E_callV (v := some (.int 1)) (As := [.ref 65, .int a3, .int 0, .int 7]) (r0 := []) (cs2 := (w0.set 48 (.inl [0, 1, 0, 0, 0, 0, 0, 0]))) rfl rfl rfl (Nat.le_of_ble_eq_true rfl) rfl rfl e5 (by decide) rfl ?_
    refine E_if (t := 15) (b := true) rfl rfl (by decide) ?_
    refine E_aload_n rfl rfl ?_
    refine E_iload_n rfl rfl ?_
    refine E_iload_n rfl rfl ?_
    refine E_bipush (x := 40) rfl (by decide) ?_
    refine E_iload rfl rfl ?_
    refine E_if (t := 31) (b := false) rfl rfl (by decide) ?_
    refine E_iload rfl rfl ?_
    refine E_iconst (x := 1) rfl (by decide) ?_
    refine E_ic (t := 35) (b := false) rfl rfl (by decide) ?_
    refine E_iconst (x := 1) rfl (by decide) ?_
    refine E_goto (t := 36) rfl rfl ?_
    have e29 : Ev ab_Z0 3 186 [.ref 65, .int a1, .int a2, .int 40, .int 1] (w0.set 48 (.inl [0, 1, 0, 0, 0, 0, 0, 0])) (some (.int (-1)), (w0.set 48 (.inl [0, 1, 0, 0, 0, 0, 0, 0]))) := by
      refine Ef.in (md := mX6_barsOf) (L := [some (.ref 65), some (.int a1), some (.int a2), some (.int 40), some (.int 1), none]) rfl (Nat.le_of_ble_eq_true rfl) rfl ?_
      refine E_aload_n rfl rfl ?_
      refine E_iload_n rfl rfl ?_
      have e3 : Ev ab_Z0 2 142 [.ref 65, .int a1] (w0.set 48 (.inl [0, 1, 0, 0, 0, 0, 0, 0])) (some (.int (-1)), (w0.set 48 (.inl [0, 1, 0, 0, 0, 0, 0, 0]))) := by
        refine Ef.in (md := mX6_wanted) (L := [some (.ref 65), some (.int a1)]) rfl (Nat.le_of_ble_eq_true rfl) rfl ?_
        refine E_aload_n rfl rfl ?_
        refine E_iload_n rfl rfl ?_
        have e3 : Ev ab_Z0 1 131 [.ref 65, .int a1] (w0.set 48 (.inl [0, 1, 0, 0, 0, 0, 0, 0])) (some (.int 0), (w0.set 48 (.inl [0, 1, 0, 0, 0, 0, 0, 0]))) := by
          refine Ef.in (md := mX6_isShelf) (L := [some (.ref 65), some (.int a1)]) rfl (Nat.le_of_ble_eq_true rfl) rfl ?_
          refine E_iload_n rfl rfl ?_
          refine E_if (t := 14) (b := false) rfl rfl ((cn_lt (rfl : (a1).toInt = (a1).toInt) (by decide : (0 : Int32).toInt = 0)).trans (decide_eq_false (by omega))) ?_
          refine E_iload_n rfl rfl ?_
          refine E_bipush (x := 8) rfl (by decide) ?_
          refine E_ic (t := 14) (b := true) rfl rfl ((cn_ge (rfl : (a1).toInt = (a1).toInt) (by decide : (8 : Int32).toInt = 8)).trans (decide_eq_true (by omega))) ?_
          refine E_iconst (x := 0) rfl (by decide) ?_
          exact E_iret rfl rfl
        refine E_callV (v := some (.int 0)) (As := [.ref 65, .int a1]) (r0 := []) (cs2 := (w0.set 48 (.inl [0, 1, 0, 0, 0, 0, 0, 0]))) rfl rfl rfl (Nat.le_of_ble_eq_true rfl) rfl rfl e3 (by decide) rfl ?_
        refine E_if (t := 12) (b := false) rfl rfl (by decide) ?_
        refine E_iconst (x := (-1)) rfl (by decide) ?_
        refine E_goto (t := 42) rfl rfl ?_
        exact E_iret rfl rfl
      refine E_callV (v := some (.int (-1))) (As := [.ref 65, .int a1]) (r0 := []) (cs2 := (w0.set 48 (.inl [0, 1, 0, 0, 0, 0, 0, 0]))) rfl rfl rfl (Nat.le_of_ble_eq_true rfl) rfl rfl e3 (by decide) rfl ?_
      refine E_istore (L2 := [some (.ref 65), some (.int a1), some (.int a2), some (.int 40), some (.int 1), some (.int (-1))]) rfl rfl ?_
      refine E_iload rfl rfl ?_
      refine E_if (t := 17) (b := false) rfl rfl (by decide) ?_
      refine E_iload rfl rfl ?_
      refine E_goto (t := 59) rfl rfl ?_
      exact E_iret rfl rfl
    refine E_callV (v := some (.int (-1))) (As := [.ref 65, .int a1, .int a2, .int 40, .int 1]) (r0 := []) (cs2 := (w0.set 48 (.inl [0, 1, 0, 0, 0, 0, 0, 0]))) rfl rfl rfl (Nat.le_of_ble_eq_true rfl) rfl rfl e29 (by decide) rfl ?_
    refine E_istore (L2 := [some (.ref 65), some (.int a1), some (.int a2), some (.int a3), some (.int 1), some (.int (-1)), none, none, none, none, none, none]) rfl rfl ?_
    refine E_iconst (x := 0) rfl (by decide) ?_
    refine E_istore (L2 := [some (.ref 65), some (.int a1), some (.int a2), some (.int a3), some (.int 1), some (.int (-1)), some (.int 0), none, none, none, none, none]) rfl rfl ?_
    refine E_iload rfl rfl ?_
    refine E_iload_n rfl rfl ?_
    refine E_ic (t := 80) (b := true) rfl rfl ((cn_ge (by decide : (0 : Int32).toInt = 0) (rfl : (a2).toInt = (a2).toInt)).trans (decide_eq_true (by omega))) ?_
    refine E_iload rfl rfl ?_
    refine E_if (t := 92) (b := false) rfl rfl (by decide) ?_
    refine E_aload_n rfl rfl ?_
    refine E_iload rfl rfl ?_
    refine E_callV (v := some (.int (-11))) (As := [.ref 65, .int (-1)]) (r0 := []) (cs2 := ((w0.set 48 (.inl [0, 1, 0, 0, 0, 0, 0, 0])).set 66 (.inl [0, 1, 0, 0, 0, 0, 0, 0]))) rfl rfl rfl (Nat.le_of_ble_eq_true rfl) rfl rfl c247_X6_noTen (by decide) (by simp only [List.length_set]) ?_
    exact E_iret rfl rfl, (by simp only [List.length_set]; rfl), (by simp only [List.length_set]; rfl), ((ab_szs rfl).trans ((ab_szs rfl).trans rfl)), fun _ => rfl⟩
theorem f_costs_62 (a1 a2 a3 : Int32) (ha1l : (8 : Int) ≤ a1.toInt) (ha2l : (1 : Int) ≤ a2.toInt) (ha3l : (0 : Int) ≤ a3.toInt) (ha3h : a3.toInt ≤ 7) : p1_P 6 100 4 188 [.ref 0, .int a1, .int a2, .int a3, .int 1] [.ref 65, .int a1, .int a2, .int a3, .int 1] :=
  ⟨(-11), (w0.set 48 (.inl [0, 1, 0, 0, 0, 0, 0, 0])), ((w0.set 48 (.inl [0, 1, 0, 0, 0, 0, 0, 0])).set 66 (.inl [0, 1, 0, 0, 0, 0, 0, 0])), by
    refine Ef.in (md := mX5_costs) (L := [some (.ref 0), some (.int a1), some (.int a2), some (.int a3), some (.int 1), none, none, none, none]) rfl (Nat.le_of_ble_eq_true rfl) rfl ?_
    refine E_iload_n rfl rfl ?_
    have e2 : Ev ab_Z0 1 47 [.int a3] w0 (some (.int 1), w0) := by
      refine Ef.in (md := mX4_isWish) (L := [some (.int a3)]) rfl (Nat.le_of_ble_eq_true rfl) rfl ?_
      refine E_iload_n rfl rfl ?_
      refine E_if (t := 14) (b := false) rfl rfl ((cn_lt (rfl : (a3).toInt = (a3).toInt) (by decide : (0 : Int32).toInt = 0)).trans (decide_eq_false (by omega))) ?_
      refine E_iload_n rfl rfl ?_
      refine E_bipush (x := 8) rfl (by decide) ?_
      refine E_ic (t := 14) (b := false) rfl rfl ((cn_ge (rfl : (a3).toInt = (a3).toInt) (by decide : (8 : Int32).toInt = 8)).trans (decide_eq_false (by omega))) ?_
      refine E_iconst (x := 1) rfl (by decide) ?_
      refine E_goto (t := 15) rfl rfl ?_
      exact E_iret rfl rfl
    refine E_callS (v := some (.int 1)) (As := [.int a3]) (r0 := []) (cs2 := w0) rfl rfl rfl (Nat.le_of_ble_eq_true rfl) rfl e2 (by decide) rfl ?_
    refine E_if (t := 31) (b := false) rfl rfl (by decide) ?_
    refine E_aload_n rfl rfl ?_
    refine E_iload_n rfl rfl ?_
    refine E_iload_n rfl rfl ?_
    refine E_bipush (x := 40) rfl (by decide) ?_
    refine E_iload rfl rfl ?_
    refine E_callS (v := some (.int 1)) (As := [.int 1]) (r0 := [.int 40, .int a2, .int a1, .ref 0]) (cs2 := w0) rfl rfl rfl (Nat.le_of_ble_eq_true rfl) rfl c239_X5_isOneOfTwo (by decide) rfl ?_
    refine E_if (t := 24) (b := true) rfl rfl (by decide) ?_
    refine E_iconst (x := 0) rfl (by decide) ?_
    have e22 : Ev ab_Z0 3 120 [.ref 0, .int a1, .int a2, .int 40, .int 0] w0 (some (.int 1), w0) := by
      refine Ef.in (md := mX5_whyNoTwos) (L := [some (.ref 0), some (.int a1), some (.int a2), some (.int 40), some (.int 0), none]) rfl (Nat.le_of_ble_eq_true rfl) rfl ?_
      refine E_aload_n rfl rfl ?_
      refine E_iload_n rfl rfl ?_
      have e3 : Ev ab_Z0 2 119 [.ref 0, .int a1] w0 (some (.int 1), w0) := by
        refine Ef.in (md := mX5_whyNoRow) (L := [some (.ref 0), some (.int a1)]) rfl (Nat.le_of_ble_eq_true rfl) rfl ?_
        refine E_iload_n rfl rfl ?_
        have e2 : Ev ab_Z0 1 117 [.int a1] w0 (some (.int 0), w0) := by
          refine Ef.in (md := mX5_isShelf) (L := [some (.int a1)]) rfl (Nat.le_of_ble_eq_true rfl) rfl ?_
          refine E_iload_n rfl rfl ?_
          refine E_if (t := 14) (b := false) rfl rfl ((cn_lt (rfl : (a1).toInt = (a1).toInt) (by decide : (0 : Int32).toInt = 0)).trans (decide_eq_false (by omega))) ?_
          refine E_iload_n rfl rfl ?_
          refine E_bipush (x := 8) rfl (by decide) ?_
          refine E_ic (t := 14) (b := true) rfl rfl ((cn_ge (rfl : (a1).toInt = (a1).toInt) (by decide : (8 : Int32).toInt = 8)).trans (decide_eq_true (by omega))) ?_
          refine E_iconst (x := 0) rfl (by decide) ?_
          exact E_iret rfl rfl
        refine E_callS (v := some (.int 0)) (As := [.int a1]) (r0 := []) (cs2 := w0) rfl rfl rfl (Nat.le_of_ble_eq_true rfl) rfl e2 (by decide) rfl ?_
        refine E_if (t := 9) (b := false) rfl rfl (by decide) ?_
        refine E_iconst (x := 1) rfl (by decide) ?_
        exact E_iret rfl rfl
      refine E_callV (v := some (.int 1)) (As := [.ref 0, .int a1]) (r0 := []) (cs2 := w0) rfl rfl rfl (Nat.le_of_ble_eq_true rfl) rfl rfl e3 (by decide) rfl ?_
      refine E_istore (L2 := [some (.ref 0), some (.int a1), some (.int a2), some (.int 40), some (.int 0), some (.int 1)]) rfl rfl ?_
      refine E_iload rfl rfl ?_
      refine E_if (t := 15) (b := false) rfl rfl (by decide) ?_
      refine E_iload rfl rfl ?_
      exact E_iret rfl rfl
    refine E_callV (v := some (.int 1)) (As := [.ref 0, .int a1, .int a2, .int 40, .int 0]) (r0 := []) (cs2 := w0) rfl rfl rfl (Nat.le_of_ble_eq_true rfl) rfl rfl e22 (by decide) rfl ?_
    refine E_goto (t := 32) rfl rfl ?_
    refine E_istore (L2 := [some (.ref 0), some (.int a1), some (.int a2), some (.int a3), some (.int 1), some (.int 1), none, none, none]) rfl rfl ?_
    refine E_iload rfl rfl ?_
    refine E_if (t := 56) (b := true) rfl rfl (by decide) ?_
    refine E_iload rfl rfl ?_
    refine E_if (t := 71) (b := false) rfl rfl (by decide) ?_
    refine E_aload_n rfl rfl ?_
    refine E_iload rfl rfl ?_
    refine E_callV (v := some (.int (-1))) (As := [.ref 0, .int 1]) (r0 := []) (cs2 := (w0.set 48 (.inl [0, 1, 0, 0, 0, 0, 0, 0]))) rfl rfl rfl (Nat.le_of_ble_eq_true rfl) rfl rfl c1_X5_refuse (by decide) (by simp only [List.length_set]) ?_
    refine E_bipush (x := 10) rfl (by decide) ?_
    refine E_isub (z := (-11)) rfl (by decide) ?_
    exact E_iret rfl rfl, by
    refine Ef.in (md := mX6_costs) (L := [some (.ref 65), some (.int a1), some (.int a2), some (.int a3), some (.int 1), none, none, none, none, none, none, none]) rfl (Nat.le_of_ble_eq_true rfl) rfl ?_
    refine E_aload_n rfl rfl ?_
    refine E_iload_n rfl rfl ?_
    refine E_iconst (x := 0) rfl (by decide) ?_
    refine E_bipush (x := 7) rfl (by decide) ?_
    have e5 : Ev ab_Z0 1 134 [.ref 65, .int a3, .int 0, .int 7] (w0.set 48 (.inl [0, 1, 0, 0, 0, 0, 0, 0])) (some (.int 1), (w0.set 48 (.inl [0, 1, 0, 0, 0, 0, 0, 0]))) := by
      refine Ef.in (md := mX6_isFrom) (L := [some (.ref 65), some (.int a3), some (.int 0), some (.int 7)]) rfl (Nat.le_of_ble_eq_true rfl) rfl ?_
      refine E_iload_n rfl rfl ?_
      refine E_iload_n rfl rfl ?_
      refine E_ic (t := 14) (b := false) rfl rfl ((cn_lt (rfl : (a3).toInt = (a3).toInt) (by decide : (0 : Int32).toInt = 0)).trans (decide_eq_false (by omega))) ?_
      refine E_iload_n rfl rfl ?_
      refine E_iload_n rfl rfl ?_
      refine E_ic (t := 14) (b := false) rfl rfl ((cn_gt (rfl : (a3).toInt = (a3).toInt) (by decide : (7 : Int32).toInt = 7)).trans (decide_eq_false (by omega))) ?_
      refine E_iconst (x := 1) rfl (by decide) ?_
      refine E_goto (t := 15) rfl rfl ?_
      exact E_iret rfl rfl
    refine E_callV (v := some (.int 1)) (As := [.ref 65, .int a3, .int 0, .int 7]) (r0 := []) (cs2 := (w0.set 48 (.inl [0, 1, 0, 0, 0, 0, 0, 0]))) rfl rfl rfl (Nat.le_of_ble_eq_true rfl) rfl rfl e5 (by decide) rfl ?_
    refine E_if (t := 15) (b := true) rfl rfl (by decide) ?_
    refine E_aload_n rfl rfl ?_
    refine E_iload_n rfl rfl ?_
    refine E_iload_n rfl rfl ?_
    refine E_bipush (x := 40) rfl (by decide) ?_
    refine E_iload rfl rfl ?_
    refine E_if (t := 31) (b := false) rfl rfl (by decide) ?_
    refine E_iload rfl rfl ?_
    refine E_iconst (x := 1) rfl (by decide) ?_
    refine E_ic (t := 35) (b := false) rfl rfl (by decide) ?_
    refine E_iconst (x := 1) rfl (by decide) ?_
    refine E_goto (t := 36) rfl rfl ?_
    have e29 : Ev ab_Z0 3 186 [.ref 65, .int a1, .int a2, .int 40, .int 1] (w0.set 48 (.inl [0, 1, 0, 0, 0, 0, 0, 0])) (some (.int (-1)), (w0.set 48 (.inl [0, 1, 0, 0, 0, 0, 0, 0]))) := by
      refine Ef.in (md := mX6_barsOf) (L := [some (.ref 65), some (.int a1), some (.int a2), some (.int 40), some (.int 1), none]) rfl (Nat.le_of_ble_eq_true rfl) rfl ?_
      refine E_aload_n rfl rfl ?_
      refine E_iload_n rfl rfl ?_
      have e3 : Ev ab_Z0 2 142 [.ref 65, .int a1] (w0.set 48 (.inl [0, 1, 0, 0, 0, 0, 0, 0])) (some (.int (-1)), (w0.set 48 (.inl [0, 1, 0, 0, 0, 0, 0, 0]))) := by
        refine Ef.in (md := mX6_wanted) (L := [some (.ref 65), some (.int a1)]) rfl (Nat.le_of_ble_eq_true rfl) rfl ?_
        refine E_aload_n rfl rfl ?_
        refine E_iload_n rfl rfl ?_
        have e3 : Ev ab_Z0 1 131 [.ref 65, .int a1] (w0.set 48 (.inl [0, 1, 0, 0, 0, 0, 0, 0])) (some (.int 0), (w0.set 48 (.inl [0, 1, 0, 0, 0, 0, 0, 0]))) := by
          refine Ef.in (md := mX6_isShelf) (L := [some (.ref 65), some (.int a1)]) rfl (Nat.le_of_ble_eq_true rfl) rfl ?_
          refine E_iload_n rfl rfl ?_
          refine E_if (t := 14) (b := false) rfl rfl ((cn_lt (rfl : (a1).toInt = (a1).toInt) (by decide : (0 : Int32).toInt = 0)).trans (decide_eq_false (by omega))) ?_
          refine E_iload_n rfl rfl ?_
          refine E_bipush (x := 8) rfl (by decide) ?_
          refine E_ic (t := 14) (b := true) rfl rfl ((cn_ge (rfl : (a1).toInt = (a1).toInt) (by decide : (8 : Int32).toInt = 8)).trans (decide_eq_true (by omega))) ?_
          refine E_iconst (x := 0) rfl (by decide) ?_
          exact E_iret rfl rfl
        refine E_callV (v := some (.int 0)) (As := [.ref 65, .int a1]) (r0 := []) (cs2 := (w0.set 48 (.inl [0, 1, 0, 0, 0, 0, 0, 0]))) rfl rfl rfl (Nat.le_of_ble_eq_true rfl) rfl rfl e3 (by decide) rfl ?_
        refine E_if (t := 12) (b := false) rfl rfl (by decide) ?_
        refine E_iconst (x := (-1)) rfl (by decide) ?_
        refine E_goto (t := 42) rfl rfl ?_
        exact E_iret rfl rfl
      refine E_callV (v := some (.int (-1))) (As := [.ref 65, .int a1]) (r0 := []) (cs2 := (w0.set 48 (.inl [0, 1, 0, 0, 0, 0, 0, 0]))) rfl rfl rfl (Nat.le_of_ble_eq_true rfl) rfl rfl e3 (by decide) rfl ?_
      refine E_istore (L2 := [some (.ref 65), some (.int a1), some (.int a2), some (.int 40), some (.int 1), some (.int (-1))]) rfl rfl ?_
      refine E_iload rfl rfl ?_
      refine E_if (t := 17) (b := false) rfl rfl (by decide) ?_
      refine E_iload rfl rfl ?_
      refine E_goto (t := 59) rfl rfl ?_
      exact E_iret rfl rfl
    refine E_callV (v := some (.int (-1))) (As := [.ref 65, .int a1, .int a2, .int 40, .int 1]) (r0 := []) (cs2 := (w0.set 48 (.inl [0, 1, 0, 0, 0, 0, 0, 0]))) rfl rfl rfl (Nat.le_of_ble_eq_true rfl) rfl rfl e29 (by decide) rfl ?_
    refine E_istore (L2 := [some (.ref 65), some (.int a1), some (.int a2), some (.int a3), some (.int 1), some (.int (-1)), none, none, none, none, none, none]) rfl rfl ?_
    refine E_iconst (x := 0) rfl (by decide) ?_
    refine E_istore (L2 := [some (.ref 65), some (.int a1), some (.int a2), some (.int a3), some (.int 1), some (.int (-1)), some (.int 0), none, none, none, none, none]) rfl rfl ?_
    refine E_iload rfl rfl ?_
    refine E_iload_n rfl rfl ?_
    refine E_ic (t := 80) (b := false) rfl rfl ((cn_ge (by decide : (0 : Int32).toInt = 0) (rfl : (a2).toInt = (a2).toInt)).trans (decide_eq_false (by omega))) ?_
    refine E_iload rfl rfl ?_
    refine E_if (t := 80) (b := true) rfl rfl (by decide) ?_
    refine E_iload rfl rfl ?_
    refine E_if (t := 92) (b := false) rfl rfl (by decide) ?_
    refine E_aload_n rfl rfl ?_
    refine E_iload rfl rfl ?_
    refine E_callV (v := some (.int (-11))) (As := [.ref 65, .int (-1)]) (r0 := []) (cs2 := ((w0.set 48 (.inl [0, 1, 0, 0, 0, 0, 0, 0])).set 66 (.inl [0, 1, 0, 0, 0, 0, 0, 0]))) rfl rfl rfl (Nat.le_of_ble_eq_true rfl) rfl rfl c247_X6_noTen (by decide) (by simp only [List.length_set]) ?_
    exact E_iret rfl rfl, (by simp only [List.length_set]; rfl), (by simp only [List.length_set]; rfl), ((ab_szs rfl).trans ((ab_szs rfl).trans rfl)), fun _ => rfl⟩
theorem f_costs_63 (a1 a2 a3 a4 : Int32) (ha1h : a1.toInt ≤ -1) (ha2h : a2.toInt ≤ 0) (ha3l : (0 : Int) ≤ a3.toInt) (ha3h : a3.toInt ≤ 7) (ha4l : (2 : Int) ≤ a4.toInt) : p1_P 6 100 4 188 [.ref 0, .int a1, .int a2, .int a3, .int a4] [.ref 65, .int a1, .int a2, .int a3, .int a4] :=
  ⟨(-11), (w0.set 48 (.inl [0, 1, 0, 0, 0, 0, 0, 0])), ((w0.set 48 (.inl [0, 1, 0, 0, 0, 0, 0, 0])).set 66 (.inl [0, 1, 0, 0, 0, 0, 0, 0])), by
    refine Ef.in (md := mX5_costs) (L := [some (.ref 0), some (.int a1), some (.int a2), some (.int a3), some (.int a4), none, none, none, none]) rfl (Nat.le_of_ble_eq_true rfl) rfl ?_
    refine E_iload_n rfl rfl ?_
    have e2 : Ev ab_Z0 1 47 [.int a3] w0 (some (.int 1), w0) := by
      refine Ef.in (md := mX4_isWish) (L := [some (.int a3)]) rfl (Nat.le_of_ble_eq_true rfl) rfl ?_
      refine E_iload_n rfl rfl ?_
      refine E_if (t := 14) (b := false) rfl rfl ((cn_lt (rfl : (a3).toInt = (a3).toInt) (by decide : (0 : Int32).toInt = 0)).trans (decide_eq_false (by omega))) ?_
      refine E_iload_n rfl rfl ?_
      refine E_bipush (x := 8) rfl (by decide) ?_
      refine E_ic (t := 14) (b := false) rfl rfl ((cn_ge (rfl : (a3).toInt = (a3).toInt) (by decide : (8 : Int32).toInt = 8)).trans (decide_eq_false (by omega))) ?_
      refine E_iconst (x := 1) rfl (by decide) ?_
      refine E_goto (t := 15) rfl rfl ?_
      exact E_iret rfl rfl
    refine E_callS (v := some (.int 1)) (As := [.int a3]) (r0 := []) (cs2 := w0) rfl rfl rfl (Nat.le_of_ble_eq_true rfl) rfl e2 (by decide) rfl ?_
    refine E_if (t := 31) (b := false) rfl rfl (by decide) ?_
    refine E_aload_n rfl rfl ?_
    refine E_iload_n rfl rfl ?_
    refine E_iload_n rfl rfl ?_
    refine E_bipush (x := 40) rfl (by decide) ?_
    refine E_iload rfl rfl ?_
    have e19 : Ev ab_Z0 1 116 [.int a4] w0 (some (.int 0), w0) := by
      refine Ef.in (md := mX5_isOneOfTwo) (L := [some (.int a4)]) rfl (Nat.le_of_ble_eq_true rfl) rfl ?_
      refine E_iload_n rfl rfl ?_
      refine E_if (t := 9) (b := false) rfl rfl ((cn_eq (rfl : (a4).toInt = (a4).toInt) (by decide : (0 : Int32).toInt = 0)).trans (decide_eq_false (by omega))) ?_
      refine E_iload_n rfl rfl ?_
      refine E_iconst (x := 1) rfl (by decide) ?_
      refine E_ic (t := 13) (b := true) rfl rfl ((cn_ne (rfl : (a4).toInt = (a4).toInt) (by decide : (1 : Int32).toInt = 1)).trans (decide_eq_true (by omega))) ?_
      refine E_iconst (x := 0) rfl (by decide) ?_
      exact E_iret rfl rfl
    refine E_callS (v := some (.int 0)) (As := [.int a4]) (r0 := [.int 40, .int a2, .int a1, .ref 0]) (cs2 := w0) rfl rfl rfl (Nat.le_of_ble_eq_true rfl) rfl e19 (by decide) rfl ?_
    refine E_if (t := 24) (b := false) rfl rfl (by decide) ?_
    refine E_iconst (x := 1) rfl (by decide) ?_
    refine E_goto (t := 25) rfl rfl ?_
    have e32 : Ev ab_Z0 3 120 [.ref 0, .int a1, .int a2, .int 40, .int 1] w0 (some (.int 1), w0) := by
      refine Ef.in (md := mX5_whyNoTwos) (L := [some (.ref 0), some (.int a1), some (.int a2), some (.int 40), some (.int 1), none]) rfl (Nat.le_of_ble_eq_true rfl) rfl ?_
      refine E_aload_n rfl rfl ?_
      refine E_iload_n rfl rfl ?_
      have e3 : Ev ab_Z0 2 119 [.ref 0, .int a1] w0 (some (.int 1), w0) := by
        refine Ef.in (md := mX5_whyNoRow) (L := [some (.ref 0), some (.int a1)]) rfl (Nat.le_of_ble_eq_true rfl) rfl ?_
        refine E_iload_n rfl rfl ?_
        have e2 : Ev ab_Z0 1 117 [.int a1] w0 (some (.int 0), w0) := by
          refine Ef.in (md := mX5_isShelf) (L := [some (.int a1)]) rfl (Nat.le_of_ble_eq_true rfl) rfl ?_
          refine E_iload_n rfl rfl ?_
          refine E_if (t := 14) (b := true) rfl rfl ((cn_lt (rfl : (a1).toInt = (a1).toInt) (by decide : (0 : Int32).toInt = 0)).trans (decide_eq_true (by omega))) ?_
          refine E_iconst (x := 0) rfl (by decide) ?_
          exact E_iret rfl rfl
        refine E_callS (v := some (.int 0)) (As := [.int a1]) (r0 := []) (cs2 := w0) rfl rfl rfl (Nat.le_of_ble_eq_true rfl) rfl e2 (by decide) rfl ?_
        refine E_if (t := 9) (b := false) rfl rfl (by decide) ?_
        refine E_iconst (x := 1) rfl (by decide) ?_
        exact E_iret rfl rfl
      refine E_callV (v := some (.int 1)) (As := [.ref 0, .int a1]) (r0 := []) (cs2 := w0) rfl rfl rfl (Nat.le_of_ble_eq_true rfl) rfl rfl e3 (by decide) rfl ?_
      refine E_istore (L2 := [some (.ref 0), some (.int a1), some (.int a2), some (.int 40), some (.int 1), some (.int 1)]) rfl rfl ?_
      refine E_iload rfl rfl ?_
      refine E_if (t := 15) (b := false) rfl rfl (by decide) ?_
      refine E_iload rfl rfl ?_
      exact E_iret rfl rfl
    refine E_callV (v := some (.int 1)) (As := [.ref 0, .int a1, .int a2, .int 40, .int 1]) (r0 := []) (cs2 := w0) rfl rfl rfl (Nat.le_of_ble_eq_true rfl) rfl rfl e32 (by decide) rfl ?_
    refine E_goto (t := 32) rfl rfl ?_
    refine E_istore (L2 := [some (.ref 0), some (.int a1), some (.int a2), some (.int a3), some (.int a4), some (.int 1), none, none, none]) rfl rfl ?_
    refine E_iload rfl rfl ?_
    refine E_if (t := 56) (b := true) rfl rfl (by decide) ?_
    refine E_iload rfl rfl ?_
    refine E_if (t := 71) (b := false) rfl rfl (by decide) ?_
    refine E_aload_n rfl rfl ?_
    refine E_iload rfl rfl ?_
    refine E_callV (v := some (.int (-1))) (As := [.ref 0, .int 1]) (r0 := []) (cs2 := (w0.set 48 (.inl [0, 1, 0, 0, 0, 0, 0, 0]))) rfl rfl rfl (Nat.le_of_ble_eq_true rfl) rfl rfl c1_X5_refuse (by decide) (by simp only [List.length_set]) ?_
    refine E_bipush (x := 10) rfl (by decide) ?_
    refine E_isub (z := (-11)) rfl (by decide) ?_
    exact E_iret rfl rfl, by
    refine Ef.in (md := mX6_costs) (L := [some (.ref 65), some (.int a1), some (.int a2), some (.int a3), some (.int a4), none, none, none, none, none, none, none]) rfl (Nat.le_of_ble_eq_true rfl) rfl ?_
    refine E_aload_n rfl rfl ?_
    refine E_iload_n rfl rfl ?_
    refine E_iconst (x := 0) rfl (by decide) ?_
    refine E_bipush (x := 7) rfl (by decide) ?_
    have e5 : Ev ab_Z0 1 134 [.ref 65, .int a3, .int 0, .int 7] (w0.set 48 (.inl [0, 1, 0, 0, 0, 0, 0, 0])) (some (.int 1), (w0.set 48 (.inl [0, 1, 0, 0, 0, 0, 0, 0]))) := by
      refine Ef.in (md := mX6_isFrom) (L := [some (.ref 65), some (.int a3), some (.int 0), some (.int 7)]) rfl (Nat.le_of_ble_eq_true rfl) rfl ?_
      refine E_iload_n rfl rfl ?_
      refine E_iload_n rfl rfl ?_
      refine E_ic (t := 14) (b := false) rfl rfl ((cn_lt (rfl : (a3).toInt = (a3).toInt) (by decide : (0 : Int32).toInt = 0)).trans (decide_eq_false (by omega))) ?_
      refine E_iload_n rfl rfl ?_
      refine E_iload_n rfl rfl ?_
      refine E_ic (t := 14) (b := false) rfl rfl ((cn_gt (rfl : (a3).toInt = (a3).toInt) (by decide : (7 : Int32).toInt = 7)).trans (decide_eq_false (by omega))) ?_
      refine E_iconst (x := 1) rfl (by decide) ?_
      refine E_goto (t := 15) rfl rfl ?_
      exact E_iret rfl rfl
    refine E_callV (v := some (.int 1)) (As := [.ref 65, .int a3, .int 0, .int 7]) (r0 := []) (cs2 := (w0.set 48 (.inl [0, 1, 0, 0, 0, 0, 0, 0]))) rfl rfl rfl (Nat.le_of_ble_eq_true rfl) rfl rfl e5 (by decide) rfl ?_
    refine E_if (t := 15) (b := true) rfl rfl (by decide) ?_
    refine E_aload_n rfl rfl ?_
    refine E_iload_n rfl rfl ?_
    refine E_iload_n rfl rfl ?_
    refine E_bipush (x := 40) rfl (by decide) ?_
    refine E_iload rfl rfl ?_
    refine E_if (t := 31) (b := false) rfl rfl ((cn_eq (rfl : (a4).toInt = (a4).toInt) (by decide : (0 : Int32).toInt = 0)).trans (decide_eq_false (by omega))) ?_
    refine E_iload rfl rfl ?_
    refine E_iconst (x := 1) rfl (by decide) ?_
    refine E_ic (t := 35) (b := true) rfl rfl ((cn_ne (rfl : (a4).toInt = (a4).toInt) (by decide : (1 : Int32).toInt = 1)).trans (decide_eq_true (by omega))) ?_
    refine E_iconst (x := 0) rfl (by decide) ?_
    have e28 : Ev ab_Z0 3 186 [.ref 65, .int a1, .int a2, .int 40, .int 0] (w0.set 48 (.inl [0, 1, 0, 0, 0, 0, 0, 0])) (some (.int (-1)), (w0.set 48 (.inl [0, 1, 0, 0, 0, 0, 0, 0]))) := by
      refine Ef.in (md := mX6_barsOf) (L := [some (.ref 65), some (.int a1), some (.int a2), some (.int 40), some (.int 0), none]) rfl (Nat.le_of_ble_eq_true rfl) rfl ?_
      refine E_aload_n rfl rfl ?_
      refine E_iload_n rfl rfl ?_
      have e3 : Ev ab_Z0 2 142 [.ref 65, .int a1] (w0.set 48 (.inl [0, 1, 0, 0, 0, 0, 0, 0])) (some (.int (-1)), (w0.set 48 (.inl [0, 1, 0, 0, 0, 0, 0, 0]))) := by
        refine Ef.in (md := mX6_wanted) (L := [some (.ref 65), some (.int a1)]) rfl (Nat.le_of_ble_eq_true rfl) rfl ?_
        refine E_aload_n rfl rfl ?_
        refine E_iload_n rfl rfl ?_
        have e3 : Ev ab_Z0 1 131 [.ref 65, .int a1] (w0.set 48 (.inl [0, 1, 0, 0, 0, 0, 0, 0])) (some (.int 0), (w0.set 48 (.inl [0, 1, 0, 0, 0, 0, 0, 0]))) := by
          refine Ef.in (md := mX6_isShelf) (L := [some (.ref 65), some (.int a1)]) rfl (Nat.le_of_ble_eq_true rfl) rfl ?_
          refine E_iload_n rfl rfl ?_
          refine E_if (t := 14) (b := true) rfl rfl ((cn_lt (rfl : (a1).toInt = (a1).toInt) (by decide : (0 : Int32).toInt = 0)).trans (decide_eq_true (by omega))) ?_
          refine E_iconst (x := 0) rfl (by decide) ?_
          exact E_iret rfl rfl
        refine E_callV (v := some (.int 0)) (As := [.ref 65, .int a1]) (r0 := []) (cs2 := (w0.set 48 (.inl [0, 1, 0, 0, 0, 0, 0, 0]))) rfl rfl rfl (Nat.le_of_ble_eq_true rfl) rfl rfl e3 (by decide) rfl ?_
        refine E_if (t := 12) (b := false) rfl rfl (by decide) ?_
        refine E_iconst (x := (-1)) rfl (by decide) ?_
        refine E_goto (t := 42) rfl rfl ?_
        exact E_iret rfl rfl
      refine E_callV (v := some (.int (-1))) (As := [.ref 65, .int a1]) (r0 := []) (cs2 := (w0.set 48 (.inl [0, 1, 0, 0, 0, 0, 0, 0]))) rfl rfl rfl (Nat.le_of_ble_eq_true rfl) rfl rfl e3 (by decide) rfl ?_
      refine E_istore (L2 := [some (.ref 65), some (.int a1), some (.int a2), some (.int 40), some (.int 0), some (.int (-1))]) rfl rfl ?_
      refine E_iload rfl rfl ?_
      refine E_if (t := 17) (b := false) rfl rfl (by decide) ?_
      refine E_iload rfl rfl ?_
      refine E_goto (t := 59) rfl rfl ?_
      exact E_iret rfl rfl
    refine E_callV (v := some (.int (-1))) (As := [.ref 65, .int a1, .int a2, .int 40, .int 0]) (r0 := []) (cs2 := (w0.set 48 (.inl [0, 1, 0, 0, 0, 0, 0, 0]))) rfl rfl rfl (Nat.le_of_ble_eq_true rfl) rfl rfl e28 (by decide) rfl ?_
    refine E_istore (L2 := [some (.ref 65), some (.int a1), some (.int a2), some (.int a3), some (.int a4), some (.int (-1)), none, none, none, none, none, none]) rfl rfl ?_
    refine E_iconst (x := 0) rfl (by decide) ?_
    refine E_istore (L2 := [some (.ref 65), some (.int a1), some (.int a2), some (.int a3), some (.int a4), some (.int (-1)), some (.int 0), none, none, none, none, none]) rfl rfl ?_
    refine E_iload rfl rfl ?_
    refine E_iload_n rfl rfl ?_
    refine E_ic (t := 80) (b := true) rfl rfl ((cn_ge (by decide : (0 : Int32).toInt = 0) (rfl : (a2).toInt = (a2).toInt)).trans (decide_eq_true (by omega))) ?_
    refine E_iload rfl rfl ?_
    refine E_if (t := 92) (b := false) rfl rfl (by decide) ?_
    refine E_aload_n rfl rfl ?_
    refine E_iload rfl rfl ?_
    refine E_callV (v := some (.int (-11))) (As := [.ref 65, .int (-1)]) (r0 := []) (cs2 := ((w0.set 48 (.inl [0, 1, 0, 0, 0, 0, 0, 0])).set 66 (.inl [0, 1, 0, 0, 0, 0, 0, 0]))) rfl rfl rfl (Nat.le_of_ble_eq_true rfl) rfl rfl c247_X6_noTen (by decide) (by simp only [List.length_set]) ?_
    exact E_iret rfl rfl, (by simp only [List.length_set]; rfl), (by simp only [List.length_set]; rfl), ((ab_szs rfl).trans ((ab_szs rfl).trans rfl)), fun _ => rfl⟩
theorem f_costs_64 (a1 a2 a3 a4 : Int32) (ha1h : a1.toInt ≤ -1) (ha2l : (1 : Int) ≤ a2.toInt) (ha3l : (0 : Int) ≤ a3.toInt) (ha3h : a3.toInt ≤ 7) (ha4l : (2 : Int) ≤ a4.toInt) : p1_P 6 100 4 188 [.ref 0, .int a1, .int a2, .int a3, .int a4] [.ref 65, .int a1, .int a2, .int a3, .int a4] :=
  ⟨(-11), (w0.set 48 (.inl [0, 1, 0, 0, 0, 0, 0, 0])), ((w0.set 48 (.inl [0, 1, 0, 0, 0, 0, 0, 0])).set 66 (.inl [0, 1, 0, 0, 0, 0, 0, 0])), by
    refine Ef.in (md := mX5_costs) (L := [some (.ref 0), some (.int a1), some (.int a2), some (.int a3), some (.int a4), none, none, none, none]) rfl (Nat.le_of_ble_eq_true rfl) rfl ?_
    refine E_iload_n rfl rfl ?_
    have e2 : Ev ab_Z0 1 47 [.int a3] w0 (some (.int 1), w0) := by
      refine Ef.in (md := mX4_isWish) (L := [some (.int a3)]) rfl (Nat.le_of_ble_eq_true rfl) rfl ?_
      refine E_iload_n rfl rfl ?_
      refine E_if (t := 14) (b := false) rfl rfl ((cn_lt (rfl : (a3).toInt = (a3).toInt) (by decide : (0 : Int32).toInt = 0)).trans (decide_eq_false (by omega))) ?_
      refine E_iload_n rfl rfl ?_
      refine E_bipush (x := 8) rfl (by decide) ?_
      refine E_ic (t := 14) (b := false) rfl rfl ((cn_ge (rfl : (a3).toInt = (a3).toInt) (by decide : (8 : Int32).toInt = 8)).trans (decide_eq_false (by omega))) ?_
      refine E_iconst (x := 1) rfl (by decide) ?_
      refine E_goto (t := 15) rfl rfl ?_
      exact E_iret rfl rfl
    refine E_callS (v := some (.int 1)) (As := [.int a3]) (r0 := []) (cs2 := w0) rfl rfl rfl (Nat.le_of_ble_eq_true rfl) rfl e2 (by decide) rfl ?_
    refine E_if (t := 31) (b := false) rfl rfl (by decide) ?_
    refine E_aload_n rfl rfl ?_
    refine E_iload_n rfl rfl ?_
    refine E_iload_n rfl rfl ?_
    refine E_bipush (x := 40) rfl (by decide) ?_
    refine E_iload rfl rfl ?_
    have e19 : Ev ab_Z0 1 116 [.int a4] w0 (some (.int 0), w0) := by
      refine Ef.in (md := mX5_isOneOfTwo) (L := [some (.int a4)]) rfl (Nat.le_of_ble_eq_true rfl) rfl ?_
      refine E_iload_n rfl rfl ?_
      refine E_if (t := 9) (b := false) rfl rfl ((cn_eq (rfl : (a4).toInt = (a4).toInt) (by decide : (0 : Int32).toInt = 0)).trans (decide_eq_false (by omega))) ?_
      refine E_iload_n rfl rfl ?_
      refine E_iconst (x := 1) rfl (by decide) ?_
      refine E_ic (t := 13) (b := true) rfl rfl ((cn_ne (rfl : (a4).toInt = (a4).toInt) (by decide : (1 : Int32).toInt = 1)).trans (decide_eq_true (by omega))) ?_
      refine E_iconst (x := 0) rfl (by decide) ?_
      exact E_iret rfl rfl
    refine E_callS (v := some (.int 0)) (As := [.int a4]) (r0 := [.int 40, .int a2, .int a1, .ref 0]) (cs2 := w0) rfl rfl rfl (Nat.le_of_ble_eq_true rfl) rfl e19 (by decide) rfl ?_
    refine E_if (t := 24) (b := false) rfl rfl (by decide) ?_
    refine E_iconst (x := 1) rfl (by decide) ?_
    refine E_goto (t := 25) rfl rfl ?_
    have e32 : Ev ab_Z0 3 120 [.ref 0, .int a1, .int a2, .int 40, .int 1] w0 (some (.int 1), w0) := by
      refine Ef.in (md := mX5_whyNoTwos) (L := [some (.ref 0), some (.int a1), some (.int a2), some (.int 40), some (.int 1), none]) rfl (Nat.le_of_ble_eq_true rfl) rfl ?_
      refine E_aload_n rfl rfl ?_
      refine E_iload_n rfl rfl ?_
      have e3 : Ev ab_Z0 2 119 [.ref 0, .int a1] w0 (some (.int 1), w0) := by
        refine Ef.in (md := mX5_whyNoRow) (L := [some (.ref 0), some (.int a1)]) rfl (Nat.le_of_ble_eq_true rfl) rfl ?_
        refine E_iload_n rfl rfl ?_
        have e2 : Ev ab_Z0 1 117 [.int a1] w0 (some (.int 0), w0) := by
          refine Ef.in (md := mX5_isShelf) (L := [some (.int a1)]) rfl (Nat.le_of_ble_eq_true rfl) rfl ?_
          refine E_iload_n rfl rfl ?_
          refine E_if (t := 14) (b := true) rfl rfl ((cn_lt (rfl : (a1).toInt = (a1).toInt) (by decide : (0 : Int32).toInt = 0)).trans (decide_eq_true (by omega))) ?_
          refine E_iconst (x := 0) rfl (by decide) ?_
          exact E_iret rfl rfl
        refine E_callS (v := some (.int 0)) (As := [.int a1]) (r0 := []) (cs2 := w0) rfl rfl rfl (Nat.le_of_ble_eq_true rfl) rfl e2 (by decide) rfl ?_
        refine E_if (t := 9) (b := false) rfl rfl (by decide) ?_
        refine E_iconst (x := 1) rfl (by decide) ?_
        exact E_iret rfl rfl
      refine E_callV (v := some (.int 1)) (As := [.ref 0, .int a1]) (r0 := []) (cs2 := w0) rfl rfl rfl (Nat.le_of_ble_eq_true rfl) rfl rfl e3 (by decide) rfl ?_
      refine E_istore (L2 := [some (.ref 0), some (.int a1), some (.int a2), some (.int 40), some (.int 1), some (.int 1)]) rfl rfl ?_
      refine E_iload rfl rfl ?_
      refine E_if (t := 15) (b := false) rfl rfl (by decide) ?_
      refine E_iload rfl rfl ?_
      exact E_iret rfl rfl
    refine E_callV (v := some (.int 1)) (As := [.ref 0, .int a1, .int a2, .int 40, .int 1]) (r0 := []) (cs2 := w0) rfl rfl rfl (Nat.le_of_ble_eq_true rfl) rfl rfl e32 (by decide) rfl ?_
    refine E_goto (t := 32) rfl rfl ?_
    refine E_istore (L2 := [some (.ref 0), some (.int a1), some (.int a2), some (.int a3), some (.int a4), some (.int 1), none, none, none]) rfl rfl ?_
    refine E_iload rfl rfl ?_
    refine E_if (t := 56) (b := true) rfl rfl (by decide) ?_
    refine E_iload rfl rfl ?_
    refine E_if (t := 71) (b := false) rfl rfl (by decide) ?_
    refine E_aload_n rfl rfl ?_
    refine E_iload rfl rfl ?_
    refine E_callV (v := some (.int (-1))) (As := [.ref 0, .int 1]) (r0 := []) (cs2 := (w0.set 48 (.inl [0, 1, 0, 0, 0, 0, 0, 0]))) rfl rfl rfl (Nat.le_of_ble_eq_true rfl) rfl rfl c1_X5_refuse (by decide) (by simp only [List.length_set]) ?_
    refine E_bipush (x := 10) rfl (by decide) ?_
    refine E_isub (z := (-11)) rfl (by decide) ?_
    exact E_iret rfl rfl, by
    refine Ef.in (md := mX6_costs) (L := [some (.ref 65), some (.int a1), some (.int a2), some (.int a3), some (.int a4), none, none, none, none, none, none, none]) rfl (Nat.le_of_ble_eq_true rfl) rfl ?_
    refine E_aload_n rfl rfl ?_
    refine E_iload_n rfl rfl ?_
    refine E_iconst (x := 0) rfl (by decide) ?_
    refine E_bipush (x := 7) rfl (by decide) ?_
    have e5 : Ev ab_Z0 1 134 [.ref 65, .int a3, .int 0, .int 7] (w0.set 48 (.inl [0, 1, 0, 0, 0, 0, 0, 0])) (some (.int 1), (w0.set 48 (.inl [0, 1, 0, 0, 0, 0, 0, 0]))) := by
      refine Ef.in (md := mX6_isFrom) (L := [some (.ref 65), some (.int a3), some (.int 0), some (.int 7)]) rfl (Nat.le_of_ble_eq_true rfl) rfl ?_
      refine E_iload_n rfl rfl ?_
      refine E_iload_n rfl rfl ?_
      refine E_ic (t := 14) (b := false) rfl rfl ((cn_lt (rfl : (a3).toInt = (a3).toInt) (by decide : (0 : Int32).toInt = 0)).trans (decide_eq_false (by omega))) ?_
      refine E_iload_n rfl rfl ?_
      refine E_iload_n rfl rfl ?_
      refine E_ic (t := 14) (b := false) rfl rfl ((cn_gt (rfl : (a3).toInt = (a3).toInt) (by decide : (7 : Int32).toInt = 7)).trans (decide_eq_false (by omega))) ?_
      refine E_iconst (x := 1) rfl (by decide) ?_
      refine E_goto (t := 15) rfl rfl ?_
      exact E_iret rfl rfl
    refine E_callV (v := some (.int 1)) (As := [.ref 65, .int a3, .int 0, .int 7]) (r0 := []) (cs2 := (w0.set 48 (.inl [0, 1, 0, 0, 0, 0, 0, 0]))) rfl rfl rfl (Nat.le_of_ble_eq_true rfl) rfl rfl e5 (by decide) rfl ?_
    refine E_if (t := 15) (b := true) rfl rfl (by decide) ?_
    refine E_aload_n rfl rfl ?_
    refine E_iload_n rfl rfl ?_
    refine E_iload_n rfl rfl ?_
    refine E_bipush (x := 40) rfl (by decide) ?_
    refine E_iload rfl rfl ?_
    refine E_if (t := 31) (b := false) rfl rfl ((cn_eq (rfl : (a4).toInt = (a4).toInt) (by decide : (0 : Int32).toInt = 0)).trans (decide_eq_false (by omega))) ?_
    refine E_iload rfl rfl ?_
    refine E_iconst (x := 1) rfl (by decide) ?_
    refine E_ic (t := 35) (b := true) rfl rfl ((cn_ne (rfl : (a4).toInt = (a4).toInt) (by decide : (1 : Int32).toInt = 1)).trans (decide_eq_true (by omega))) ?_
    refine E_iconst (x := 0) rfl (by decide) ?_
    have e28 : Ev ab_Z0 3 186 [.ref 65, .int a1, .int a2, .int 40, .int 0] (w0.set 48 (.inl [0, 1, 0, 0, 0, 0, 0, 0])) (some (.int (-1)), (w0.set 48 (.inl [0, 1, 0, 0, 0, 0, 0, 0]))) := by
      refine Ef.in (md := mX6_barsOf) (L := [some (.ref 65), some (.int a1), some (.int a2), some (.int 40), some (.int 0), none]) rfl (Nat.le_of_ble_eq_true rfl) rfl ?_
      refine E_aload_n rfl rfl ?_
      refine E_iload_n rfl rfl ?_
      have e3 : Ev ab_Z0 2 142 [.ref 65, .int a1] (w0.set 48 (.inl [0, 1, 0, 0, 0, 0, 0, 0])) (some (.int (-1)), (w0.set 48 (.inl [0, 1, 0, 0, 0, 0, 0, 0]))) := by
        refine Ef.in (md := mX6_wanted) (L := [some (.ref 65), some (.int a1)]) rfl (Nat.le_of_ble_eq_true rfl) rfl ?_
        refine E_aload_n rfl rfl ?_
        refine E_iload_n rfl rfl ?_
        have e3 : Ev ab_Z0 1 131 [.ref 65, .int a1] (w0.set 48 (.inl [0, 1, 0, 0, 0, 0, 0, 0])) (some (.int 0), (w0.set 48 (.inl [0, 1, 0, 0, 0, 0, 0, 0]))) := by
          refine Ef.in (md := mX6_isShelf) (L := [some (.ref 65), some (.int a1)]) rfl (Nat.le_of_ble_eq_true rfl) rfl ?_
          refine E_iload_n rfl rfl ?_
          refine E_if (t := 14) (b := true) rfl rfl ((cn_lt (rfl : (a1).toInt = (a1).toInt) (by decide : (0 : Int32).toInt = 0)).trans (decide_eq_true (by omega))) ?_
          refine E_iconst (x := 0) rfl (by decide) ?_
          exact E_iret rfl rfl
        refine E_callV (v := some (.int 0)) (As := [.ref 65, .int a1]) (r0 := []) (cs2 := (w0.set 48 (.inl [0, 1, 0, 0, 0, 0, 0, 0]))) rfl rfl rfl (Nat.le_of_ble_eq_true rfl) rfl rfl e3 (by decide) rfl ?_
        refine E_if (t := 12) (b := false) rfl rfl (by decide) ?_
        refine E_iconst (x := (-1)) rfl (by decide) ?_
        refine E_goto (t := 42) rfl rfl ?_
        exact E_iret rfl rfl
      refine E_callV (v := some (.int (-1))) (As := [.ref 65, .int a1]) (r0 := []) (cs2 := (w0.set 48 (.inl [0, 1, 0, 0, 0, 0, 0, 0]))) rfl rfl rfl (Nat.le_of_ble_eq_true rfl) rfl rfl e3 (by decide) rfl ?_
      refine E_istore (L2 := [some (.ref 65), some (.int a1), some (.int a2), some (.int 40), some (.int 0), some (.int (-1))]) rfl rfl ?_
      refine E_iload rfl rfl ?_
      refine E_if (t := 17) (b := false) rfl rfl (by decide) ?_
      refine E_iload rfl rfl ?_
      refine E_goto (t := 59) rfl rfl ?_
      exact E_iret rfl rfl
    refine E_callV (v := some (.int (-1))) (As := [.ref 65, .int a1, .int a2, .int 40, .int 0]) (r0 := []) (cs2 := (w0.set 48 (.inl [0, 1, 0, 0, 0, 0, 0, 0]))) rfl rfl rfl (Nat.le_of_ble_eq_true rfl) rfl rfl e28 (by decide) rfl ?_
    refine E_istore (L2 := [some (.ref 65), some (.int a1), some (.int a2), some (.int a3), some (.int a4), some (.int (-1)), none, none, none, none, none, none]) rfl rfl ?_
    refine E_iconst (x := 0) rfl (by decide) ?_
    refine E_istore (L2 := [some (.ref 65), some (.int a1), some (.int a2), some (.int a3), some (.int a4), some (.int (-1)), some (.int 0), none, none, none, none, none]) rfl rfl ?_
    refine E_iload rfl rfl ?_
    refine E_iload_n rfl rfl ?_
    refine E_ic (t := 80) (b := false) rfl rfl ((cn_ge (by decide : (0 : Int32).toInt = 0) (rfl : (a2).toInt = (a2).toInt)).trans (decide_eq_false (by omega))) ?_
    refine E_iload rfl rfl ?_
    refine E_if (t := 80) (b := true) rfl rfl (by decide) ?_
    refine E_iload rfl rfl ?_
    refine E_if (t := 92) (b := false) rfl rfl (by decide) ?_
    refine E_aload_n rfl rfl ?_
    refine E_iload rfl rfl ?_
    refine E_callV (v := some (.int (-11))) (As := [.ref 65, .int (-1)]) (r0 := []) (cs2 := ((w0.set 48 (.inl [0, 1, 0, 0, 0, 0, 0, 0])).set 66 (.inl [0, 1, 0, 0, 0, 0, 0, 0]))) rfl rfl rfl (Nat.le_of_ble_eq_true rfl) rfl rfl c247_X6_noTen (by decide) (by simp only [List.length_set]) ?_
    exact E_iret rfl rfl, (by simp only [List.length_set]; rfl), (by simp only [List.length_set]; rfl), ((ab_szs rfl).trans ((ab_szs rfl).trans rfl)), fun _ => rfl⟩
theorem f_costs_65 (a2 a3 a4 : Int32) (ha2h : a2.toInt ≤ 0) (ha3l : (0 : Int) ≤ a3.toInt) (ha3h : a3.toInt ≤ 7) (ha4l : (2 : Int) ≤ a4.toInt) : p1_P 6 100 4 188 [.ref 0, .int 0, .int a2, .int a3, .int a4] [.ref 65, .int 0, .int a2, .int a3, .int a4] :=
  ⟨(-13), (w0.set 48 (.inl [0, 0, 0, 1, 0, 0, 0, 0])), ((w0.set 48 (.inl [0, 0, 0, 1, 0, 0, 0, 0])).set 66 (.inl [0, 0, 0, 1, 0, 0, 0, 0])), by
    refine Ef.in (md := mX5_costs) (L := [some (.ref 0), some (.int 0), some (.int a2), some (.int a3), some (.int a4), none, none, none, none]) rfl (Nat.le_of_ble_eq_true rfl) rfl ?_
    refine E_iload_n rfl rfl ?_
    have e2 : Ev ab_Z0 1 47 [.int a3] w0 (some (.int 1), w0) := by
      refine Ef.in (md := mX4_isWish) (L := [some (.int a3)]) rfl (Nat.le_of_ble_eq_true rfl) rfl ?_
      refine E_iload_n rfl rfl ?_
      refine E_if (t := 14) (b := false) rfl rfl ((cn_lt (rfl : (a3).toInt = (a3).toInt) (by decide : (0 : Int32).toInt = 0)).trans (decide_eq_false (by omega))) ?_
      refine E_iload_n rfl rfl ?_
      refine E_bipush (x := 8) rfl (by decide) ?_
      refine E_ic (t := 14) (b := false) rfl rfl ((cn_ge (rfl : (a3).toInt = (a3).toInt) (by decide : (8 : Int32).toInt = 8)).trans (decide_eq_false (by omega))) ?_
      refine E_iconst (x := 1) rfl (by decide) ?_
      refine E_goto (t := 15) rfl rfl ?_
      exact E_iret rfl rfl
    refine E_callS (v := some (.int 1)) (As := [.int a3]) (r0 := []) (cs2 := w0) rfl rfl rfl (Nat.le_of_ble_eq_true rfl) rfl e2 (by decide) rfl ?_
    refine E_if (t := 31) (b := false) rfl rfl (by decide) ?_
    refine E_aload_n rfl rfl ?_
    refine E_iload_n rfl rfl ?_
    refine E_iload_n rfl rfl ?_
    refine E_bipush (x := 40) rfl (by decide) ?_
    refine E_iload rfl rfl ?_
    have e19 : Ev ab_Z0 1 116 [.int a4] w0 (some (.int 0), w0) := by
      refine Ef.in (md := mX5_isOneOfTwo) (L := [some (.int a4)]) rfl (Nat.le_of_ble_eq_true rfl) rfl ?_
      refine E_iload_n rfl rfl ?_
      refine E_if (t := 9) (b := false) rfl rfl ((cn_eq (rfl : (a4).toInt = (a4).toInt) (by decide : (0 : Int32).toInt = 0)).trans (decide_eq_false (by omega))) ?_
      refine E_iload_n rfl rfl ?_
      refine E_iconst (x := 1) rfl (by decide) ?_
      refine E_ic (t := 13) (b := true) rfl rfl ((cn_ne (rfl : (a4).toInt = (a4).toInt) (by decide : (1 : Int32).toInt = 1)).trans (decide_eq_true (by omega))) ?_
      refine E_iconst (x := 0) rfl (by decide) ?_
      exact E_iret rfl rfl
    refine E_callS (v := some (.int 0)) (As := [.int a4]) (r0 := [.int 40, .int a2, .int 0, .ref 0]) (cs2 := w0) rfl rfl rfl (Nat.le_of_ble_eq_true rfl) rfl e19 (by decide) rfl ?_
    refine E_if (t := 24) (b := false) rfl rfl (by decide) ?_
    refine E_iconst (x := 1) rfl (by decide) ?_
    refine E_goto (t := 25) rfl rfl ?_
    have e32 : Ev ab_Z0 3 120 [.ref 0, .int 0, .int a2, .int 40, .int 1] w0 (some (.int 3), w0) := by
      refine Ef.in (md := mX5_whyNoTwos) (L := [some (.ref 0), some (.int 0), some (.int a2), some (.int 40), some (.int 1), none]) rfl (Nat.le_of_ble_eq_true rfl) rfl ?_
      refine E_aload_n rfl rfl ?_
      refine E_iload_n rfl rfl ?_
      refine E_callV (v := some (.int 3)) (As := [.ref 0, .int 0]) (r0 := []) (cs2 := w0) rfl rfl rfl (Nat.le_of_ble_eq_true rfl) rfl rfl c29_X5_whyNoRow (by decide) rfl ?_
      refine E_istore (L2 := [some (.ref 0), some (.int 0), some (.int a2), some (.int 40), some (.int 1), some (.int 3)]) rfl rfl ?_
      refine E_iload rfl rfl ?_
      refine E_if (t := 15) (b := false) rfl rfl (by decide) ?_
      refine E_iload rfl rfl ?_
      exact E_iret rfl rfl
    refine E_callV (v := some (.int 3)) (As := [.ref 0, .int 0, .int a2, .int 40, .int 1]) (r0 := []) (cs2 := w0) rfl rfl rfl (Nat.le_of_ble_eq_true rfl) rfl rfl e32 (by decide) rfl ?_
    refine E_goto (t := 32) rfl rfl ?_
    refine E_istore (L2 := [some (.ref 0), some (.int 0), some (.int a2), some (.int a3), some (.int a4), some (.int 3), none, none, none]) rfl rfl ?_
    refine E_iload rfl rfl ?_
    refine E_if (t := 56) (b := true) rfl rfl (by decide) ?_
    refine E_iload rfl rfl ?_
    refine E_if (t := 71) (b := false) rfl rfl (by decide) ?_
    refine E_aload_n rfl rfl ?_
    refine E_iload rfl rfl ?_
    refine E_callV (v := some (.int (-3))) (As := [.ref 0, .int 3]) (r0 := []) (cs2 := (w0.set 48 (.inl [0, 0, 0, 1, 0, 0, 0, 0]))) rfl rfl rfl (Nat.le_of_ble_eq_true rfl) rfl rfl c32_X5_refuse (by decide) (by simp only [List.length_set]) ?_
    refine E_bipush (x := 10) rfl (by decide) ?_
    refine E_isub (z := (-13)) rfl (by decide) ?_
    exact E_iret rfl rfl, by
    refine Ef.in (md := mX6_costs) (L := [some (.ref 65), some (.int 0), some (.int a2), some (.int a3), some (.int a4), none, none, none, none, none, none, none]) rfl (Nat.le_of_ble_eq_true rfl) rfl ?_
    refine E_aload_n rfl rfl ?_
    refine E_iload_n rfl rfl ?_
    refine E_iconst (x := 0) rfl (by decide) ?_
    refine E_bipush (x := 7) rfl (by decide) ?_
    have e5 : Ev ab_Z0 1 134 [.ref 65, .int a3, .int 0, .int 7] (w0.set 48 (.inl [0, 0, 0, 1, 0, 0, 0, 0])) (some (.int 1), (w0.set 48 (.inl [0, 0, 0, 1, 0, 0, 0, 0]))) := by
      refine Ef.in (md := mX6_isFrom) (L := [some (.ref 65), some (.int a3), some (.int 0), some (.int 7)]) rfl (Nat.le_of_ble_eq_true rfl) rfl ?_
      refine E_iload_n rfl rfl ?_
      refine E_iload_n rfl rfl ?_
      refine E_ic (t := 14) (b := false) rfl rfl ((cn_lt (rfl : (a3).toInt = (a3).toInt) (by decide : (0 : Int32).toInt = 0)).trans (decide_eq_false (by omega))) ?_
      refine E_iload_n rfl rfl ?_
      refine E_iload_n rfl rfl ?_
      refine E_ic (t := 14) (b := false) rfl rfl ((cn_gt (rfl : (a3).toInt = (a3).toInt) (by decide : (7 : Int32).toInt = 7)).trans (decide_eq_false (by omega))) ?_
      refine E_iconst (x := 1) rfl (by decide) ?_
      refine E_goto (t := 15) rfl rfl ?_
      exact E_iret rfl rfl
    refine E_callV (v := some (.int 1)) (As := [.ref 65, .int a3, .int 0, .int 7]) (r0 := []) (cs2 := (w0.set 48 (.inl [0, 0, 0, 1, 0, 0, 0, 0]))) rfl rfl rfl (Nat.le_of_ble_eq_true rfl) rfl rfl e5 (by decide) rfl ?_
    refine E_if (t := 15) (b := true) rfl rfl (by decide) ?_
    refine E_aload_n rfl rfl ?_
    refine E_iload_n rfl rfl ?_
    refine E_iload_n rfl rfl ?_
    refine E_bipush (x := 40) rfl (by decide) ?_
    refine E_iload rfl rfl ?_
    refine E_if (t := 31) (b := false) rfl rfl ((cn_eq (rfl : (a4).toInt = (a4).toInt) (by decide : (0 : Int32).toInt = 0)).trans (decide_eq_false (by omega))) ?_
    refine E_iload rfl rfl ?_
    refine E_iconst (x := 1) rfl (by decide) ?_
    refine E_ic (t := 35) (b := true) rfl rfl ((cn_ne (rfl : (a4).toInt = (a4).toInt) (by decide : (1 : Int32).toInt = 1)).trans (decide_eq_true (by omega))) ?_
    refine E_iconst (x := 0) rfl (by decide) ?_
    have e28 : Ev ab_Z0 3 186 [.ref 65, .int 0, .int a2, .int 40, .int 0] (w0.set 48 (.inl [0, 0, 0, 1, 0, 0, 0, 0])) (some (.int (-3)), (w0.set 48 (.inl [0, 0, 0, 1, 0, 0, 0, 0]))) := by
      refine Ef.in (md := mX6_barsOf) (L := [some (.ref 65), some (.int 0), some (.int a2), some (.int 40), some (.int 0), none]) rfl (Nat.le_of_ble_eq_true rfl) rfl ?_
      refine E_aload_n rfl rfl ?_
      refine E_iload_n rfl rfl ?_
      refine E_callV (v := some (.int (-3))) (As := [.ref 65, .int 0]) (r0 := []) (cs2 := (w0.set 48 (.inl [0, 0, 0, 1, 0, 0, 0, 0]))) rfl rfl rfl (Nat.le_of_ble_eq_true rfl) rfl rfl c205_X6_wanted (by decide) rfl ?_
      refine E_istore (L2 := [some (.ref 65), some (.int 0), some (.int a2), some (.int 40), some (.int 0), some (.int (-3))]) rfl rfl ?_
      refine E_iload rfl rfl ?_
      refine E_if (t := 17) (b := false) rfl rfl (by decide) ?_
      refine E_iload rfl rfl ?_
      refine E_goto (t := 59) rfl rfl ?_
      exact E_iret rfl rfl
    refine E_callV (v := some (.int (-3))) (As := [.ref 65, .int 0, .int a2, .int 40, .int 0]) (r0 := []) (cs2 := (w0.set 48 (.inl [0, 0, 0, 1, 0, 0, 0, 0]))) rfl rfl rfl (Nat.le_of_ble_eq_true rfl) rfl rfl e28 (by decide) rfl ?_
    refine E_istore (L2 := [some (.ref 65), some (.int 0), some (.int a2), some (.int a3), some (.int a4), some (.int (-3)), none, none, none, none, none, none]) rfl rfl ?_
    refine E_iconst (x := 0) rfl (by decide) ?_
    refine E_istore (L2 := [some (.ref 65), some (.int 0), some (.int a2), some (.int a3), some (.int a4), some (.int (-3)), some (.int 0), none, none, none, none, none]) rfl rfl ?_
    refine E_iload rfl rfl ?_
    refine E_iload_n rfl rfl ?_
    refine E_ic (t := 80) (b := true) rfl rfl ((cn_ge (by decide : (0 : Int32).toInt = 0) (rfl : (a2).toInt = (a2).toInt)).trans (decide_eq_true (by omega))) ?_
    refine E_iload rfl rfl ?_
    refine E_if (t := 92) (b := false) rfl rfl (by decide) ?_
    refine E_aload_n rfl rfl ?_
    refine E_iload rfl rfl ?_
    refine E_callV (v := some (.int (-13))) (As := [.ref 65, .int (-3)]) (r0 := []) (cs2 := ((w0.set 48 (.inl [0, 0, 0, 1, 0, 0, 0, 0])).set 66 (.inl [0, 0, 0, 1, 0, 0, 0, 0]))) rfl rfl rfl (Nat.le_of_ble_eq_true rfl) rfl rfl c258_X6_noTen (by decide) (by simp only [List.length_set]) ?_
    exact E_iret rfl rfl, (by simp only [List.length_set]; rfl), (by simp only [List.length_set]; rfl), ((ab_szs rfl).trans ((ab_szs rfl).trans rfl)), fun _ => rfl⟩
theorem f_costs_66 (a2 a3 a4 : Int32) (ha2l : (1 : Int) ≤ a2.toInt) (ha3l : (0 : Int) ≤ a3.toInt) (ha3h : a3.toInt ≤ 7) (ha4l : (2 : Int) ≤ a4.toInt) : p1_P 6 100 4 188 [.ref 0, .int 0, .int a2, .int a3, .int a4] [.ref 65, .int 0, .int a2, .int a3, .int a4] :=
  ⟨(-13), (w0.set 48 (.inl [0, 0, 0, 1, 0, 0, 0, 0])), ((w0.set 48 (.inl [0, 0, 0, 1, 0, 0, 0, 0])).set 66 (.inl [0, 0, 0, 1, 0, 0, 0, 0])), by
    refine Ef.in (md := mX5_costs) (L := [some (.ref 0), some (.int 0), some (.int a2), some (.int a3), some (.int a4), none, none, none, none]) rfl (Nat.le_of_ble_eq_true rfl) rfl ?_
    refine E_iload_n rfl rfl ?_
    have e2 : Ev ab_Z0 1 47 [.int a3] w0 (some (.int 1), w0) := by
      refine Ef.in (md := mX4_isWish) (L := [some (.int a3)]) rfl (Nat.le_of_ble_eq_true rfl) rfl ?_
      refine E_iload_n rfl rfl ?_
      refine E_if (t := 14) (b := false) rfl rfl ((cn_lt (rfl : (a3).toInt = (a3).toInt) (by decide : (0 : Int32).toInt = 0)).trans (decide_eq_false (by omega))) ?_
      refine E_iload_n rfl rfl ?_
      refine E_bipush (x := 8) rfl (by decide) ?_
      refine E_ic (t := 14) (b := false) rfl rfl ((cn_ge (rfl : (a3).toInt = (a3).toInt) (by decide : (8 : Int32).toInt = 8)).trans (decide_eq_false (by omega))) ?_
      refine E_iconst (x := 1) rfl (by decide) ?_
      refine E_goto (t := 15) rfl rfl ?_
      exact E_iret rfl rfl
    refine E_callS (v := some (.int 1)) (As := [.int a3]) (r0 := []) (cs2 := w0) rfl rfl rfl (Nat.le_of_ble_eq_true rfl) rfl e2 (by decide) rfl ?_
    refine E_if (t := 31) (b := false) rfl rfl (by decide) ?_
    refine E_aload_n rfl rfl ?_
    refine E_iload_n rfl rfl ?_
    refine E_iload_n rfl rfl ?_
    refine E_bipush (x := 40) rfl (by decide) ?_
    refine E_iload rfl rfl ?_
    have e19 : Ev ab_Z0 1 116 [.int a4] w0 (some (.int 0), w0) := by
      refine Ef.in (md := mX5_isOneOfTwo) (L := [some (.int a4)]) rfl (Nat.le_of_ble_eq_true rfl) rfl ?_
      refine E_iload_n rfl rfl ?_
      refine E_if (t := 9) (b := false) rfl rfl ((cn_eq (rfl : (a4).toInt = (a4).toInt) (by decide : (0 : Int32).toInt = 0)).trans (decide_eq_false (by omega))) ?_
      refine E_iload_n rfl rfl ?_
      refine E_iconst (x := 1) rfl (by decide) ?_
      refine E_ic (t := 13) (b := true) rfl rfl ((cn_ne (rfl : (a4).toInt = (a4).toInt) (by decide : (1 : Int32).toInt = 1)).trans (decide_eq_true (by omega))) ?_
      refine E_iconst (x := 0) rfl (by decide) ?_
      exact E_iret rfl rfl
    refine E_callS (v := some (.int 0)) (As := [.int a4]) (r0 := [.int 40, .int a2, .int 0, .ref 0]) (cs2 := w0) rfl rfl rfl (Nat.le_of_ble_eq_true rfl) rfl e19 (by decide) rfl ?_
    refine E_if (t := 24) (b := false) rfl rfl (by decide) ?_
    refine E_iconst (x := 1) rfl (by decide) ?_
    refine E_goto (t := 25) rfl rfl ?_
    have e32 : Ev ab_Z0 3 120 [.ref 0, .int 0, .int a2, .int 40, .int 1] w0 (some (.int 3), w0) := by
      refine Ef.in (md := mX5_whyNoTwos) (L := [some (.ref 0), some (.int 0), some (.int a2), some (.int 40), some (.int 1), none]) rfl (Nat.le_of_ble_eq_true rfl) rfl ?_
      refine E_aload_n rfl rfl ?_
      refine E_iload_n rfl rfl ?_
      refine E_callV (v := some (.int 3)) (As := [.ref 0, .int 0]) (r0 := []) (cs2 := w0) rfl rfl rfl (Nat.le_of_ble_eq_true rfl) rfl rfl c29_X5_whyNoRow (by decide) rfl ?_
      refine E_istore (L2 := [some (.ref 0), some (.int 0), some (.int a2), some (.int 40), some (.int 1), some (.int 3)]) rfl rfl ?_
      refine E_iload rfl rfl ?_
      refine E_if (t := 15) (b := false) rfl rfl (by decide) ?_
      refine E_iload rfl rfl ?_
      exact E_iret rfl rfl
    refine E_callV (v := some (.int 3)) (As := [.ref 0, .int 0, .int a2, .int 40, .int 1]) (r0 := []) (cs2 := w0) rfl rfl rfl (Nat.le_of_ble_eq_true rfl) rfl rfl e32 (by decide) rfl ?_
    refine E_goto (t := 32) rfl rfl ?_
    refine E_istore (L2 := [some (.ref 0), some (.int 0), some (.int a2), some (.int a3), some (.int a4), some (.int 3), none, none, none]) rfl rfl ?_
    refine E_iload rfl rfl ?_
    refine E_if (t := 56) (b := true) rfl rfl (by decide) ?_
    refine E_iload rfl rfl ?_
    refine E_if (t := 71) (b := false) rfl rfl (by decide) ?_
    refine E_aload_n rfl rfl ?_
    refine E_iload rfl rfl ?_
    refine E_callV (v := some (.int (-3))) (As := [.ref 0, .int 3]) (r0 := []) (cs2 := (w0.set 48 (.inl [0, 0, 0, 1, 0, 0, 0, 0]))) rfl rfl rfl (Nat.le_of_ble_eq_true rfl) rfl rfl c32_X5_refuse (by decide) (by simp only [List.length_set]) ?_
    refine E_bipush (x := 10) rfl (by decide) ?_
    refine E_isub (z := (-13)) rfl (by decide) ?_
    exact E_iret rfl rfl, by
    refine Ef.in (md := mX6_costs) (L := [some (.ref 65), some (.int 0), some (.int a2), some (.int a3), some (.int a4), none, none, none, none, none, none, none]) rfl (Nat.le_of_ble_eq_true rfl) rfl ?_
    refine E_aload_n rfl rfl ?_
    refine E_iload_n rfl rfl ?_
    refine E_iconst (x := 0) rfl (by decide) ?_
    refine E_bipush (x := 7) rfl (by decide) ?_
    have e5 : Ev ab_Z0 1 134 [.ref 65, .int a3, .int 0, .int 7] (w0.set 48 (.inl [0, 0, 0, 1, 0, 0, 0, 0])) (some (.int 1), (w0.set 48 (.inl [0, 0, 0, 1, 0, 0, 0, 0]))) := by
      refine Ef.in (md := mX6_isFrom) (L := [some (.ref 65), some (.int a3), some (.int 0), some (.int 7)]) rfl (Nat.le_of_ble_eq_true rfl) rfl ?_
      refine E_iload_n rfl rfl ?_
      refine E_iload_n rfl rfl ?_
      refine E_ic (t := 14) (b := false) rfl rfl ((cn_lt (rfl : (a3).toInt = (a3).toInt) (by decide : (0 : Int32).toInt = 0)).trans (decide_eq_false (by omega))) ?_
      refine E_iload_n rfl rfl ?_
      refine E_iload_n rfl rfl ?_
      refine E_ic (t := 14) (b := false) rfl rfl ((cn_gt (rfl : (a3).toInt = (a3).toInt) (by decide : (7 : Int32).toInt = 7)).trans (decide_eq_false (by omega))) ?_
      refine E_iconst (x := 1) rfl (by decide) ?_
      refine E_goto (t := 15) rfl rfl ?_
      exact E_iret rfl rfl
    refine E_callV (v := some (.int 1)) (As := [.ref 65, .int a3, .int 0, .int 7]) (r0 := []) (cs2 := (w0.set 48 (.inl [0, 0, 0, 1, 0, 0, 0, 0]))) rfl rfl rfl (Nat.le_of_ble_eq_true rfl) rfl rfl e5 (by decide) rfl ?_
    refine E_if (t := 15) (b := true) rfl rfl (by decide) ?_
    refine E_aload_n rfl rfl ?_
    refine E_iload_n rfl rfl ?_
    refine E_iload_n rfl rfl ?_
    refine E_bipush (x := 40) rfl (by decide) ?_
    refine E_iload rfl rfl ?_
    refine E_if (t := 31) (b := false) rfl rfl ((cn_eq (rfl : (a4).toInt = (a4).toInt) (by decide : (0 : Int32).toInt = 0)).trans (decide_eq_false (by omega))) ?_
    refine E_iload rfl rfl ?_
    refine E_iconst (x := 1) rfl (by decide) ?_
    refine E_ic (t := 35) (b := true) rfl rfl ((cn_ne (rfl : (a4).toInt = (a4).toInt) (by decide : (1 : Int32).toInt = 1)).trans (decide_eq_true (by omega))) ?_
    refine E_iconst (x := 0) rfl (by decide) ?_
    have e28 : Ev ab_Z0 3 186 [.ref 65, .int 0, .int a2, .int 40, .int 0] (w0.set 48 (.inl [0, 0, 0, 1, 0, 0, 0, 0])) (some (.int (-3)), (w0.set 48 (.inl [0, 0, 0, 1, 0, 0, 0, 0]))) := by
      refine Ef.in (md := mX6_barsOf) (L := [some (.ref 65), some (.int 0), some (.int a2), some (.int 40), some (.int 0), none]) rfl (Nat.le_of_ble_eq_true rfl) rfl ?_
      refine E_aload_n rfl rfl ?_
      refine E_iload_n rfl rfl ?_
      refine E_callV (v := some (.int (-3))) (As := [.ref 65, .int 0]) (r0 := []) (cs2 := (w0.set 48 (.inl [0, 0, 0, 1, 0, 0, 0, 0]))) rfl rfl rfl (Nat.le_of_ble_eq_true rfl) rfl rfl c205_X6_wanted (by decide) rfl ?_
      refine E_istore (L2 := [some (.ref 65), some (.int 0), some (.int a2), some (.int 40), some (.int 0), some (.int (-3))]) rfl rfl ?_
      refine E_iload rfl rfl ?_
      refine E_if (t := 17) (b := false) rfl rfl (by decide) ?_
      refine E_iload rfl rfl ?_
      refine E_goto (t := 59) rfl rfl ?_
      exact E_iret rfl rfl
    refine E_callV (v := some (.int (-3))) (As := [.ref 65, .int 0, .int a2, .int 40, .int 0]) (r0 := []) (cs2 := (w0.set 48 (.inl [0, 0, 0, 1, 0, 0, 0, 0]))) rfl rfl rfl (Nat.le_of_ble_eq_true rfl) rfl rfl e28 (by decide) rfl ?_
    refine E_istore (L2 := [some (.ref 65), some (.int 0), some (.int a2), some (.int a3), some (.int a4), some (.int (-3)), none, none, none, none, none, none]) rfl rfl ?_
    refine E_iconst (x := 0) rfl (by decide) ?_
    refine E_istore (L2 := [some (.ref 65), some (.int 0), some (.int a2), some (.int a3), some (.int a4), some (.int (-3)), some (.int 0), none, none, none, none, none]) rfl rfl ?_
    refine E_iload rfl rfl ?_
    refine E_iload_n rfl rfl ?_
    refine E_ic (t := 80) (b := false) rfl rfl ((cn_ge (by decide : (0 : Int32).toInt = 0) (rfl : (a2).toInt = (a2).toInt)).trans (decide_eq_false (by omega))) ?_
    refine E_iload rfl rfl ?_
    refine E_if (t := 80) (b := true) rfl rfl (by decide) ?_
    refine E_iload rfl rfl ?_
    refine E_if (t := 92) (b := false) rfl rfl (by decide) ?_
    refine E_aload_n rfl rfl ?_
    refine E_iload rfl rfl ?_
    refine E_callV (v := some (.int (-13))) (As := [.ref 65, .int (-3)]) (r0 := []) (cs2 := ((w0.set 48 (.inl [0, 0, 0, 1, 0, 0, 0, 0])).set 66 (.inl [0, 0, 0, 1, 0, 0, 0, 0]))) rfl rfl rfl (Nat.le_of_ble_eq_true rfl) rfl rfl c258_X6_noTen (by decide) (by simp only [List.length_set]) ?_
    exact E_iret rfl rfl, (by simp only [List.length_set]; rfl), (by simp only [List.length_set]; rfl), ((ab_szs rfl).trans ((ab_szs rfl).trans rfl)), fun _ => rfl⟩
theorem f_costs_67 (a2 a3 a4 : Int32) (ha2h : a2.toInt ≤ 0) (ha3l : (0 : Int) ≤ a3.toInt) (ha3h : a3.toInt ≤ 7) (ha4l : (2 : Int) ≤ a4.toInt) : p1_P 6 100 4 188 [.ref 0, .int 1, .int a2, .int a3, .int a4] [.ref 65, .int 1, .int a2, .int a3, .int a4] :=
  ⟨(-13), (w0.set 48 (.inl [0, 0, 0, 1, 0, 0, 0, 0])), ((w0.set 48 (.inl [0, 0, 0, 1, 0, 0, 0, 0])).set 66 (.inl [0, 0, 0, 1, 0, 0, 0, 0])), by
    refine Ef.in (md := mX5_costs) (L := [some (.ref 0), some (.int 1), some (.int a2), some (.int a3), some (.int a4), none, none, none, none]) rfl (Nat.le_of_ble_eq_true rfl) rfl ?_
    refine E_iload_n rfl rfl ?_
    have e2 : Ev ab_Z0 1 47 [.int a3] w0 (some (.int 1), w0) := by
      refine Ef.in (md := mX4_isWish) (L := [some (.int a3)]) rfl (Nat.le_of_ble_eq_true rfl) rfl ?_
      refine E_iload_n rfl rfl ?_
      refine E_if (t := 14) (b := false) rfl rfl ((cn_lt (rfl : (a3).toInt = (a3).toInt) (by decide : (0 : Int32).toInt = 0)).trans (decide_eq_false (by omega))) ?_
      refine E_iload_n rfl rfl ?_
      refine E_bipush (x := 8) rfl (by decide) ?_
      refine E_ic (t := 14) (b := false) rfl rfl ((cn_ge (rfl : (a3).toInt = (a3).toInt) (by decide : (8 : Int32).toInt = 8)).trans (decide_eq_false (by omega))) ?_
      refine E_iconst (x := 1) rfl (by decide) ?_
      refine E_goto (t := 15) rfl rfl ?_
      exact E_iret rfl rfl
    refine E_callS (v := some (.int 1)) (As := [.int a3]) (r0 := []) (cs2 := w0) rfl rfl rfl (Nat.le_of_ble_eq_true rfl) rfl e2 (by decide) rfl ?_
    refine E_if (t := 31) (b := false) rfl rfl (by decide) ?_
    refine E_aload_n rfl rfl ?_
    refine E_iload_n rfl rfl ?_
    refine E_iload_n rfl rfl ?_
    refine E_bipush (x := 40) rfl (by decide) ?_
    refine E_iload rfl rfl ?_
    have e19 : Ev ab_Z0 1 116 [.int a4] w0 (some (.int 0), w0) := by
      refine Ef.in (md := mX5_isOneOfTwo) (L := [some (.int a4)]) rfl (Nat.le_of_ble_eq_true rfl) rfl ?_
      refine E_iload_n rfl rfl ?_
      refine E_if (t := 9) (b := false) rfl rfl ((cn_eq (rfl : (a4).toInt = (a4).toInt) (by decide : (0 : Int32).toInt = 0)).trans (decide_eq_false (by omega))) ?_
      refine E_iload_n rfl rfl ?_
      refine E_iconst (x := 1) rfl (by decide) ?_
      refine E_ic (t := 13) (b := true) rfl rfl ((cn_ne (rfl : (a4).toInt = (a4).toInt) (by decide : (1 : Int32).toInt = 1)).trans (decide_eq_true (by omega))) ?_
      refine E_iconst (x := 0) rfl (by decide) ?_
      exact E_iret rfl rfl
    refine E_callS (v := some (.int 0)) (As := [.int a4]) (r0 := [.int 40, .int a2, .int 1, .ref 0]) (cs2 := w0) rfl rfl rfl (Nat.le_of_ble_eq_true rfl) rfl e19 (by decide) rfl ?_
    refine E_if (t := 24) (b := false) rfl rfl (by decide) ?_
    refine E_iconst (x := 1) rfl (by decide) ?_
    refine E_goto (t := 25) rfl rfl ?_
    have e32 : Ev ab_Z0 3 120 [.ref 0, .int 1, .int a2, .int 40, .int 1] w0 (some (.int 3), w0) := by
      refine Ef.in (md := mX5_whyNoTwos) (L := [some (.ref 0), some (.int 1), some (.int a2), some (.int 40), some (.int 1), none]) rfl (Nat.le_of_ble_eq_true rfl) rfl ?_
      refine E_aload_n rfl rfl ?_
      refine E_iload_n rfl rfl ?_
      refine E_callV (v := some (.int 3)) (As := [.ref 0, .int 1]) (r0 := []) (cs2 := w0) rfl rfl rfl (Nat.le_of_ble_eq_true rfl) rfl rfl c36_X5_whyNoRow (by decide) rfl ?_
      refine E_istore (L2 := [some (.ref 0), some (.int 1), some (.int a2), some (.int 40), some (.int 1), some (.int 3)]) rfl rfl ?_
      refine E_iload rfl rfl ?_
      refine E_if (t := 15) (b := false) rfl rfl (by decide) ?_
      refine E_iload rfl rfl ?_
      exact E_iret rfl rfl
    refine E_callV (v := some (.int 3)) (As := [.ref 0, .int 1, .int a2, .int 40, .int 1]) (r0 := []) (cs2 := w0) rfl rfl rfl (Nat.le_of_ble_eq_true rfl) rfl rfl e32 (by decide) rfl ?_
    refine E_goto (t := 32) rfl rfl ?_
    refine E_istore (L2 := [some (.ref 0), some (.int 1), some (.int a2), some (.int a3), some (.int a4), some (.int 3), none, none, none]) rfl rfl ?_
    refine E_iload rfl rfl ?_
    refine E_if (t := 56) (b := true) rfl rfl (by decide) ?_
    refine E_iload rfl rfl ?_
    refine E_if (t := 71) (b := false) rfl rfl (by decide) ?_
    refine E_aload_n rfl rfl ?_
    refine E_iload rfl rfl ?_
    refine E_callV (v := some (.int (-3))) (As := [.ref 0, .int 3]) (r0 := []) (cs2 := (w0.set 48 (.inl [0, 0, 0, 1, 0, 0, 0, 0]))) rfl rfl rfl (Nat.le_of_ble_eq_true rfl) rfl rfl c32_X5_refuse (by decide) (by simp only [List.length_set]) ?_
    refine E_bipush (x := 10) rfl (by decide) ?_
    refine E_isub (z := (-13)) rfl (by decide) ?_
    exact E_iret rfl rfl, by
    refine Ef.in (md := mX6_costs) (L := [some (.ref 65), some (.int 1), some (.int a2), some (.int a3), some (.int a4), none, none, none, none, none, none, none]) rfl (Nat.le_of_ble_eq_true rfl) rfl ?_
    refine E_aload_n rfl rfl ?_
    refine E_iload_n rfl rfl ?_
    refine E_iconst (x := 0) rfl (by decide) ?_
    refine E_bipush (x := 7) rfl (by decide) ?_
    have e5 : Ev ab_Z0 1 134 [.ref 65, .int a3, .int 0, .int 7] (w0.set 48 (.inl [0, 0, 0, 1, 0, 0, 0, 0])) (some (.int 1), (w0.set 48 (.inl [0, 0, 0, 1, 0, 0, 0, 0]))) := by
      refine Ef.in (md := mX6_isFrom) (L := [some (.ref 65), some (.int a3), some (.int 0), some (.int 7)]) rfl (Nat.le_of_ble_eq_true rfl) rfl ?_
      refine E_iload_n rfl rfl ?_
      refine E_iload_n rfl rfl ?_
      refine E_ic (t := 14) (b := false) rfl rfl ((cn_lt (rfl : (a3).toInt = (a3).toInt) (by decide : (0 : Int32).toInt = 0)).trans (decide_eq_false (by omega))) ?_
      refine E_iload_n rfl rfl ?_
      refine E_iload_n rfl rfl ?_
      refine E_ic (t := 14) (b := false) rfl rfl ((cn_gt (rfl : (a3).toInt = (a3).toInt) (by decide : (7 : Int32).toInt = 7)).trans (decide_eq_false (by omega))) ?_
      refine E_iconst (x := 1) rfl (by decide) ?_
      refine E_goto (t := 15) rfl rfl ?_
      exact E_iret rfl rfl
    refine E_callV (v := some (.int 1)) (As := [.ref 65, .int a3, .int 0, .int 7]) (r0 := []) (cs2 := (w0.set 48 (.inl [0, 0, 0, 1, 0, 0, 0, 0]))) rfl rfl rfl (Nat.le_of_ble_eq_true rfl) rfl rfl e5 (by decide) rfl ?_
    refine E_if (t := 15) (b := true) rfl rfl (by decide) ?_
    refine E_aload_n rfl rfl ?_
    refine E_iload_n rfl rfl ?_
    refine E_iload_n rfl rfl ?_
    refine E_bipush (x := 40) rfl (by decide) ?_
    refine E_iload rfl rfl ?_
    refine E_if (t := 31) (b := false) rfl rfl ((cn_eq (rfl : (a4).toInt = (a4).toInt) (by decide : (0 : Int32).toInt = 0)).trans (decide_eq_false (by omega))) ?_
    refine E_iload rfl rfl ?_
    refine E_iconst (x := 1) rfl (by decide) ?_
    refine E_ic (t := 35) (b := true) rfl rfl ((cn_ne (rfl : (a4).toInt = (a4).toInt) (by decide : (1 : Int32).toInt = 1)).trans (decide_eq_true (by omega))) ?_
    refine E_iconst (x := 0) rfl (by decide) ?_
    have e28 : Ev ab_Z0 3 186 [.ref 65, .int 1, .int a2, .int 40, .int 0] (w0.set 48 (.inl [0, 0, 0, 1, 0, 0, 0, 0])) (some (.int (-3)), (w0.set 48 (.inl [0, 0, 0, 1, 0, 0, 0, 0]))) := by
      refine Ef.in (md := mX6_barsOf) (L := [some (.ref 65), some (.int 1), some (.int a2), some (.int 40), some (.int 0), none]) rfl (Nat.le_of_ble_eq_true rfl) rfl ?_
      refine E_aload_n rfl rfl ?_
      refine E_iload_n rfl rfl ?_
      refine E_callV (v := some (.int (-3))) (As := [.ref 65, .int 1]) (r0 := []) (cs2 := (w0.set 48 (.inl [0, 0, 0, 1, 0, 0, 0, 0]))) rfl rfl rfl (Nat.le_of_ble_eq_true rfl) rfl rfl c208_X6_wanted (by decide) rfl ?_
      refine E_istore (L2 := [some (.ref 65), some (.int 1), some (.int a2), some (.int 40), some (.int 0), some (.int (-3))]) rfl rfl ?_
      refine E_iload rfl rfl ?_
      refine E_if (t := 17) (b := false) rfl rfl (by decide) ?_
      refine E_iload rfl rfl ?_
      refine E_goto (t := 59) rfl rfl ?_
      exact E_iret rfl rfl
    refine E_callV (v := some (.int (-3))) (As := [.ref 65, .int 1, .int a2, .int 40, .int 0]) (r0 := []) (cs2 := (w0.set 48 (.inl [0, 0, 0, 1, 0, 0, 0, 0]))) rfl rfl rfl (Nat.le_of_ble_eq_true rfl) rfl rfl e28 (by decide) rfl ?_
    refine E_istore (L2 := [some (.ref 65), some (.int 1), some (.int a2), some (.int a3), some (.int a4), some (.int (-3)), none, none, none, none, none, none]) rfl rfl ?_
    refine E_iconst (x := 0) rfl (by decide) ?_
    refine E_istore (L2 := [some (.ref 65), some (.int 1), some (.int a2), some (.int a3), some (.int a4), some (.int (-3)), some (.int 0), none, none, none, none, none]) rfl rfl ?_
    refine E_iload rfl rfl ?_
    refine E_iload_n rfl rfl ?_
    refine E_ic (t := 80) (b := true) rfl rfl ((cn_ge (by decide : (0 : Int32).toInt = 0) (rfl : (a2).toInt = (a2).toInt)).trans (decide_eq_true (by omega))) ?_
    refine E_iload rfl rfl ?_
    refine E_if (t := 92) (b := false) rfl rfl (by decide) ?_
    refine E_aload_n rfl rfl ?_
    refine E_iload rfl rfl ?_
    refine E_callV (v := some (.int (-13))) (As := [.ref 65, .int (-3)]) (r0 := []) (cs2 := ((w0.set 48 (.inl [0, 0, 0, 1, 0, 0, 0, 0])).set 66 (.inl [0, 0, 0, 1, 0, 0, 0, 0]))) rfl rfl rfl (Nat.le_of_ble_eq_true rfl) rfl rfl c258_X6_noTen (by decide) (by simp only [List.length_set]) ?_
    exact E_iret rfl rfl, (by simp only [List.length_set]; rfl), (by simp only [List.length_set]; rfl), ((ab_szs rfl).trans ((ab_szs rfl).trans rfl)), fun _ => rfl⟩
theorem f_costs_68 (a2 a3 a4 : Int32) (ha2l : (1 : Int) ≤ a2.toInt) (ha3l : (0 : Int) ≤ a3.toInt) (ha3h : a3.toInt ≤ 7) (ha4l : (2 : Int) ≤ a4.toInt) : p1_P 6 100 4 188 [.ref 0, .int 1, .int a2, .int a3, .int a4] [.ref 65, .int 1, .int a2, .int a3, .int a4] :=
  ⟨(-13), (w0.set 48 (.inl [0, 0, 0, 1, 0, 0, 0, 0])), ((w0.set 48 (.inl [0, 0, 0, 1, 0, 0, 0, 0])).set 66 (.inl [0, 0, 0, 1, 0, 0, 0, 0])), by
    refine Ef.in (md := mX5_costs) (L := [some (.ref 0), some (.int 1), some (.int a2), some (.int a3), some (.int a4), none, none, none, none]) rfl (Nat.le_of_ble_eq_true rfl) rfl ?_
    refine E_iload_n rfl rfl ?_
    have e2 : Ev ab_Z0 1 47 [.int a3] w0 (some (.int 1), w0) := by
      refine Ef.in (md := mX4_isWish) (L := [some (.int a3)]) rfl (Nat.le_of_ble_eq_true rfl) rfl ?_
      refine E_iload_n rfl rfl ?_
      refine E_if (t := 14) (b := false) rfl rfl ((cn_lt (rfl : (a3).toInt = (a3).toInt) (by decide : (0 : Int32).toInt = 0)).trans (decide_eq_false (by omega))) ?_
      refine E_iload_n rfl rfl ?_
      refine E_bipush (x := 8) rfl (by decide) ?_
      refine E_ic (t := 14) (b := false) rfl rfl ((cn_ge (rfl : (a3).toInt = (a3).toInt) (by decide : (8 : Int32).toInt = 8)).trans (decide_eq_false (by omega))) ?_
      refine E_iconst (x := 1) rfl (by decide) ?_
      refine E_goto (t := 15) rfl rfl ?_
      exact E_iret rfl rfl
    refine E_callS (v := some (.int 1)) (As := [.int a3]) (r0 := []) (cs2 := w0) rfl rfl rfl (Nat.le_of_ble_eq_true rfl) rfl e2 (by decide) rfl ?_
    refine E_if (t := 31) (b := false) rfl rfl (by decide) ?_
    refine E_aload_n rfl rfl ?_
    refine E_iload_n rfl rfl ?_
    refine E_iload_n rfl rfl ?_
    refine E_bipush (x := 40) rfl (by decide) ?_
    refine E_iload rfl rfl ?_
    have e19 : Ev ab_Z0 1 116 [.int a4] w0 (some (.int 0), w0) := by
      refine Ef.in (md := mX5_isOneOfTwo) (L := [some (.int a4)]) rfl (Nat.le_of_ble_eq_true rfl) rfl ?_
      refine E_iload_n rfl rfl ?_
      refine E_if (t := 9) (b := false) rfl rfl ((cn_eq (rfl : (a4).toInt = (a4).toInt) (by decide : (0 : Int32).toInt = 0)).trans (decide_eq_false (by omega))) ?_
      refine E_iload_n rfl rfl ?_
      refine E_iconst (x := 1) rfl (by decide) ?_
      refine E_ic (t := 13) (b := true) rfl rfl ((cn_ne (rfl : (a4).toInt = (a4).toInt) (by decide : (1 : Int32).toInt = 1)).trans (decide_eq_true (by omega))) ?_
      refine E_iconst (x := 0) rfl (by decide) ?_
      exact E_iret rfl rfl
    refine E_callS (v := some (.int 0)) (As := [.int a4]) (r0 := [.int 40, .int a2, .int 1, .ref 0]) (cs2 := w0) rfl rfl rfl (Nat.le_of_ble_eq_true rfl) rfl e19 (by decide) rfl ?_
    refine E_if (t := 24) (b := false) rfl rfl (by decide) ?_
    refine E_iconst (x := 1) rfl (by decide) ?_
    refine E_goto (t := 25) rfl rfl ?_
    have e32 : Ev ab_Z0 3 120 [.ref 0, .int 1, .int a2, .int 40, .int 1] w0 (some (.int 3), w0) := by
      refine Ef.in (md := mX5_whyNoTwos) (L := [some (.ref 0), some (.int 1), some (.int a2), some (.int 40), some (.int 1), none]) rfl (Nat.le_of_ble_eq_true rfl) rfl ?_
      refine E_aload_n rfl rfl ?_
      refine E_iload_n rfl rfl ?_
      refine E_callV (v := some (.int 3)) (As := [.ref 0, .int 1]) (r0 := []) (cs2 := w0) rfl rfl rfl (Nat.le_of_ble_eq_true rfl) rfl rfl c36_X5_whyNoRow (by decide) rfl ?_
      refine E_istore (L2 := [some (.ref 0), some (.int 1), some (.int a2), some (.int 40), some (.int 1), some (.int 3)]) rfl rfl ?_
      refine E_iload rfl rfl ?_
      refine E_if (t := 15) (b := false) rfl rfl (by decide) ?_
      refine E_iload rfl rfl ?_
      exact E_iret rfl rfl
    refine E_callV (v := some (.int 3)) (As := [.ref 0, .int 1, .int a2, .int 40, .int 1]) (r0 := []) (cs2 := w0) rfl rfl rfl (Nat.le_of_ble_eq_true rfl) rfl rfl e32 (by decide) rfl ?_
    refine E_goto (t := 32) rfl rfl ?_
    refine E_istore (L2 := [some (.ref 0), some (.int 1), some (.int a2), some (.int a3), some (.int a4), some (.int 3), none, none, none]) rfl rfl ?_
    refine E_iload rfl rfl ?_
    refine E_if (t := 56) (b := true) rfl rfl (by decide) ?_
    refine E_iload rfl rfl ?_
    refine E_if (t := 71) (b := false) rfl rfl (by decide) ?_
    refine E_aload_n rfl rfl ?_
    refine E_iload rfl rfl ?_
    refine E_callV (v := some (.int (-3))) (As := [.ref 0, .int 3]) (r0 := []) (cs2 := (w0.set 48 (.inl [0, 0, 0, 1, 0, 0, 0, 0]))) rfl rfl rfl (Nat.le_of_ble_eq_true rfl) rfl rfl c32_X5_refuse (by decide) (by simp only [List.length_set]) ?_
    refine E_bipush (x := 10) rfl (by decide) ?_
    refine E_isub (z := (-13)) rfl (by decide) ?_
    exact E_iret rfl rfl, by
    refine Ef.in (md := mX6_costs) (L := [some (.ref 65), some (.int 1), some (.int a2), some (.int a3), some (.int a4), none, none, none, none, none, none, none]) rfl (Nat.le_of_ble_eq_true rfl) rfl ?_
    refine E_aload_n rfl rfl ?_
    refine E_iload_n rfl rfl ?_
    refine E_iconst (x := 0) rfl (by decide) ?_
    refine E_bipush (x := 7) rfl (by decide) ?_
    have e5 : Ev ab_Z0 1 134 [.ref 65, .int a3, .int 0, .int 7] (w0.set 48 (.inl [0, 0, 0, 1, 0, 0, 0, 0])) (some (.int 1), (w0.set 48 (.inl [0, 0, 0, 1, 0, 0, 0, 0]))) := by
      refine Ef.in (md := mX6_isFrom) (L := [some (.ref 65), some (.int a3), some (.int 0), some (.int 7)]) rfl (Nat.le_of_ble_eq_true rfl) rfl ?_
      refine E_iload_n rfl rfl ?_
      refine E_iload_n rfl rfl ?_
      refine E_ic (t := 14) (b := false) rfl rfl ((cn_lt (rfl : (a3).toInt = (a3).toInt) (by decide : (0 : Int32).toInt = 0)).trans (decide_eq_false (by omega))) ?_
      refine E_iload_n rfl rfl ?_
      refine E_iload_n rfl rfl ?_
      refine E_ic (t := 14) (b := false) rfl rfl ((cn_gt (rfl : (a3).toInt = (a3).toInt) (by decide : (7 : Int32).toInt = 7)).trans (decide_eq_false (by omega))) ?_
      refine E_iconst (x := 1) rfl (by decide) ?_
      refine E_goto (t := 15) rfl rfl ?_
      exact E_iret rfl rfl
    refine E_callV (v := some (.int 1)) (As := [.ref 65, .int a3, .int 0, .int 7]) (r0 := []) (cs2 := (w0.set 48 (.inl [0, 0, 0, 1, 0, 0, 0, 0]))) rfl rfl rfl (Nat.le_of_ble_eq_true rfl) rfl rfl e5 (by decide) rfl ?_
    refine E_if (t := 15) (b := true) rfl rfl (by decide) ?_
    refine E_aload_n rfl rfl ?_
    refine E_iload_n rfl rfl ?_
    refine E_iload_n rfl rfl ?_
    refine E_bipush (x := 40) rfl (by decide) ?_
    refine E_iload rfl rfl ?_
    refine E_if (t := 31) (b := false) rfl rfl ((cn_eq (rfl : (a4).toInt = (a4).toInt) (by decide : (0 : Int32).toInt = 0)).trans (decide_eq_false (by omega))) ?_
    refine E_iload rfl rfl ?_
    refine E_iconst (x := 1) rfl (by decide) ?_
    refine E_ic (t := 35) (b := true) rfl rfl ((cn_ne (rfl : (a4).toInt = (a4).toInt) (by decide : (1 : Int32).toInt = 1)).trans (decide_eq_true (by omega))) ?_
    refine E_iconst (x := 0) rfl (by decide) ?_
    have e28 : Ev ab_Z0 3 186 [.ref 65, .int 1, .int a2, .int 40, .int 0] (w0.set 48 (.inl [0, 0, 0, 1, 0, 0, 0, 0])) (some (.int (-3)), (w0.set 48 (.inl [0, 0, 0, 1, 0, 0, 0, 0]))) := by
      refine Ef.in (md := mX6_barsOf) (L := [some (.ref 65), some (.int 1), some (.int a2), some (.int 40), some (.int 0), none]) rfl (Nat.le_of_ble_eq_true rfl) rfl ?_
      refine E_aload_n rfl rfl ?_
      refine E_iload_n rfl rfl ?_
      refine E_callV (v := some (.int (-3))) (As := [.ref 65, .int 1]) (r0 := []) (cs2 := (w0.set 48 (.inl [0, 0, 0, 1, 0, 0, 0, 0]))) rfl rfl rfl (Nat.le_of_ble_eq_true rfl) rfl rfl c208_X6_wanted (by decide) rfl ?_
      refine E_istore (L2 := [some (.ref 65), some (.int 1), some (.int a2), some (.int 40), some (.int 0), some (.int (-3))]) rfl rfl ?_
      refine E_iload rfl rfl ?_
      refine E_if (t := 17) (b := false) rfl rfl (by decide) ?_
      refine E_iload rfl rfl ?_
      refine E_goto (t := 59) rfl rfl ?_
      exact E_iret rfl rfl
    refine E_callV (v := some (.int (-3))) (As := [.ref 65, .int 1, .int a2, .int 40, .int 0]) (r0 := []) (cs2 := (w0.set 48 (.inl [0, 0, 0, 1, 0, 0, 0, 0]))) rfl rfl rfl (Nat.le_of_ble_eq_true rfl) rfl rfl e28 (by decide) rfl ?_
    refine E_istore (L2 := [some (.ref 65), some (.int 1), some (.int a2), some (.int a3), some (.int a4), some (.int (-3)), none, none, none, none, none, none]) rfl rfl ?_
    refine E_iconst (x := 0) rfl (by decide) ?_
    refine E_istore (L2 := [some (.ref 65), some (.int 1), some (.int a2), some (.int a3), some (.int a4), some (.int (-3)), some (.int 0), none, none, none, none, none]) rfl rfl ?_
    refine E_iload rfl rfl ?_
    refine E_iload_n rfl rfl ?_
    refine E_ic (t := 80) (b := false) rfl rfl ((cn_ge (by decide : (0 : Int32).toInt = 0) (rfl : (a2).toInt = (a2).toInt)).trans (decide_eq_false (by omega))) ?_
    refine E_iload rfl rfl ?_
    refine E_if (t := 80) (b := true) rfl rfl (by decide) ?_
    refine E_iload rfl rfl ?_
    refine E_if (t := 92) (b := false) rfl rfl (by decide) ?_
    refine E_aload_n rfl rfl ?_
    refine E_iload rfl rfl ?_
    refine E_callV (v := some (.int (-13))) (As := [.ref 65, .int (-3)]) (r0 := []) (cs2 := ((w0.set 48 (.inl [0, 0, 0, 1, 0, 0, 0, 0])).set 66 (.inl [0, 0, 0, 1, 0, 0, 0, 0]))) rfl rfl rfl (Nat.le_of_ble_eq_true rfl) rfl rfl c258_X6_noTen (by decide) (by simp only [List.length_set]) ?_
    exact E_iret rfl rfl, (by simp only [List.length_set]; rfl), (by simp only [List.length_set]; rfl), ((ab_szs rfl).trans ((ab_szs rfl).trans rfl)), fun _ => rfl⟩
theorem f_costs_69 (a2 a3 a4 : Int32) (ha2h : a2.toInt ≤ 0) (ha3l : (0 : Int) ≤ a3.toInt) (ha3h : a3.toInt ≤ 7) (ha4l : (2 : Int) ≤ a4.toInt) : p1_P 6 100 4 188 [.ref 0, .int 2, .int a2, .int a3, .int a4] [.ref 65, .int 2, .int a2, .int a3, .int a4] :=
  ⟨(-13), (w0.set 48 (.inl [0, 0, 0, 1, 0, 0, 0, 0])), ((w0.set 48 (.inl [0, 0, 0, 1, 0, 0, 0, 0])).set 66 (.inl [0, 0, 0, 1, 0, 0, 0, 0])), by
    refine Ef.in (md := mX5_costs) (L := [some (.ref 0), some (.int 2), some (.int a2), some (.int a3), some (.int a4), none, none, none, none]) rfl (Nat.le_of_ble_eq_true rfl) rfl ?_
    refine E_iload_n rfl rfl ?_
    have e2 : Ev ab_Z0 1 47 [.int a3] w0 (some (.int 1), w0) := by
      refine Ef.in (md := mX4_isWish) (L := [some (.int a3)]) rfl (Nat.le_of_ble_eq_true rfl) rfl ?_
      refine E_iload_n rfl rfl ?_
      refine E_if (t := 14) (b := false) rfl rfl ((cn_lt (rfl : (a3).toInt = (a3).toInt) (by decide : (0 : Int32).toInt = 0)).trans (decide_eq_false (by omega))) ?_
      refine E_iload_n rfl rfl ?_
      refine E_bipush (x := 8) rfl (by decide) ?_
      refine E_ic (t := 14) (b := false) rfl rfl ((cn_ge (rfl : (a3).toInt = (a3).toInt) (by decide : (8 : Int32).toInt = 8)).trans (decide_eq_false (by omega))) ?_
      refine E_iconst (x := 1) rfl (by decide) ?_
      refine E_goto (t := 15) rfl rfl ?_
      exact E_iret rfl rfl
    refine E_callS (v := some (.int 1)) (As := [.int a3]) (r0 := []) (cs2 := w0) rfl rfl rfl (Nat.le_of_ble_eq_true rfl) rfl e2 (by decide) rfl ?_
    refine E_if (t := 31) (b := false) rfl rfl (by decide) ?_
    refine E_aload_n rfl rfl ?_
    refine E_iload_n rfl rfl ?_
    refine E_iload_n rfl rfl ?_
    refine E_bipush (x := 40) rfl (by decide) ?_
    refine E_iload rfl rfl ?_
    have e19 : Ev ab_Z0 1 116 [.int a4] w0 (some (.int 0), w0) := by
      refine Ef.in (md := mX5_isOneOfTwo) (L := [some (.int a4)]) rfl (Nat.le_of_ble_eq_true rfl) rfl ?_
      refine E_iload_n rfl rfl ?_
      refine E_if (t := 9) (b := false) rfl rfl ((cn_eq (rfl : (a4).toInt = (a4).toInt) (by decide : (0 : Int32).toInt = 0)).trans (decide_eq_false (by omega))) ?_
      refine E_iload_n rfl rfl ?_
      refine E_iconst (x := 1) rfl (by decide) ?_
      refine E_ic (t := 13) (b := true) rfl rfl ((cn_ne (rfl : (a4).toInt = (a4).toInt) (by decide : (1 : Int32).toInt = 1)).trans (decide_eq_true (by omega))) ?_
      refine E_iconst (x := 0) rfl (by decide) ?_
      exact E_iret rfl rfl
    refine E_callS (v := some (.int 0)) (As := [.int a4]) (r0 := [.int 40, .int a2, .int 2, .ref 0]) (cs2 := w0) rfl rfl rfl (Nat.le_of_ble_eq_true rfl) rfl e19 (by decide) rfl ?_
    refine E_if (t := 24) (b := false) rfl rfl (by decide) ?_
    refine E_iconst (x := 1) rfl (by decide) ?_
    refine E_goto (t := 25) rfl rfl ?_
    have e32 : Ev ab_Z0 3 120 [.ref 0, .int 2, .int a2, .int 40, .int 1] w0 (some (.int 3), w0) := by
      refine Ef.in (md := mX5_whyNoTwos) (L := [some (.ref 0), some (.int 2), some (.int a2), some (.int 40), some (.int 1), none]) rfl (Nat.le_of_ble_eq_true rfl) rfl ?_
      refine E_aload_n rfl rfl ?_
      refine E_iload_n rfl rfl ?_
      refine E_callV (v := some (.int 3)) (As := [.ref 0, .int 2]) (r0 := []) (cs2 := w0) rfl rfl rfl (Nat.le_of_ble_eq_true rfl) rfl rfl c40_X5_whyNoRow (by decide) rfl ?_
      refine E_istore (L2 := [some (.ref 0), some (.int 2), some (.int a2), some (.int 40), some (.int 1), some (.int 3)]) rfl rfl ?_
      refine E_iload rfl rfl ?_
      refine E_if (t := 15) (b := false) rfl rfl (by decide) ?_
      refine E_iload rfl rfl ?_
      exact E_iret rfl rfl
    refine E_callV (v := some (.int 3)) (As := [.ref 0, .int 2, .int a2, .int 40, .int 1]) (r0 := []) (cs2 := w0) rfl rfl rfl (Nat.le_of_ble_eq_true rfl) rfl rfl e32 (by decide) rfl ?_
    refine E_goto (t := 32) rfl rfl ?_
    refine E_istore (L2 := [some (.ref 0), some (.int 2), some (.int a2), some (.int a3), some (.int a4), some (.int 3), none, none, none]) rfl rfl ?_
    refine E_iload rfl rfl ?_
    refine E_if (t := 56) (b := true) rfl rfl (by decide) ?_
    refine E_iload rfl rfl ?_
    refine E_if (t := 71) (b := false) rfl rfl (by decide) ?_
    refine E_aload_n rfl rfl ?_
    refine E_iload rfl rfl ?_
    refine E_callV (v := some (.int (-3))) (As := [.ref 0, .int 3]) (r0 := []) (cs2 := (w0.set 48 (.inl [0, 0, 0, 1, 0, 0, 0, 0]))) rfl rfl rfl (Nat.le_of_ble_eq_true rfl) rfl rfl c32_X5_refuse (by decide) (by simp only [List.length_set]) ?_
    refine E_bipush (x := 10) rfl (by decide) ?_
    refine E_isub (z := (-13)) rfl (by decide) ?_
    exact E_iret rfl rfl, by
    refine Ef.in (md := mX6_costs) (L := [some (.ref 65), some (.int 2), some (.int a2), some (.int a3), some (.int a4), none, none, none, none, none, none, none]) rfl (Nat.le_of_ble_eq_true rfl) rfl ?_
    refine E_aload_n rfl rfl ?_
    refine E_iload_n rfl rfl ?_
    refine E_iconst (x := 0) rfl (by decide) ?_
    refine E_bipush (x := 7) rfl (by decide) ?_
    have e5 : Ev ab_Z0 1 134 [.ref 65, .int a3, .int 0, .int 7] (w0.set 48 (.inl [0, 0, 0, 1, 0, 0, 0, 0])) (some (.int 1), (w0.set 48 (.inl [0, 0, 0, 1, 0, 0, 0, 0]))) := by
      refine Ef.in (md := mX6_isFrom) (L := [some (.ref 65), some (.int a3), some (.int 0), some (.int 7)]) rfl (Nat.le_of_ble_eq_true rfl) rfl ?_
      refine E_iload_n rfl rfl ?_
      refine E_iload_n rfl rfl ?_
      refine E_ic (t := 14) (b := false) rfl rfl ((cn_lt (rfl : (a3).toInt = (a3).toInt) (by decide : (0 : Int32).toInt = 0)).trans (decide_eq_false (by omega))) ?_
      refine E_iload_n rfl rfl ?_
      refine E_iload_n rfl rfl ?_
      refine E_ic (t := 14) (b := false) rfl rfl ((cn_gt (rfl : (a3).toInt = (a3).toInt) (by decide : (7 : Int32).toInt = 7)).trans (decide_eq_false (by omega))) ?_
      refine E_iconst (x := 1) rfl (by decide) ?_
      refine E_goto (t := 15) rfl rfl ?_
      exact E_iret rfl rfl
    refine E_callV (v := some (.int 1)) (As := [.ref 65, .int a3, .int 0, .int 7]) (r0 := []) (cs2 := (w0.set 48 (.inl [0, 0, 0, 1, 0, 0, 0, 0]))) rfl rfl rfl (Nat.le_of_ble_eq_true rfl) rfl rfl e5 (by decide) rfl ?_
    refine E_if (t := 15) (b := true) rfl rfl (by decide) ?_
    refine E_aload_n rfl rfl ?_
    refine E_iload_n rfl rfl ?_
    refine E_iload_n rfl rfl ?_
    refine E_bipush (x := 40) rfl (by decide) ?_
    refine E_iload rfl rfl ?_
    refine E_if (t := 31) (b := false) rfl rfl ((cn_eq (rfl : (a4).toInt = (a4).toInt) (by decide : (0 : Int32).toInt = 0)).trans (decide_eq_false (by omega))) ?_
    refine E_iload rfl rfl ?_
    refine E_iconst (x := 1) rfl (by decide) ?_
    refine E_ic (t := 35) (b := true) rfl rfl ((cn_ne (rfl : (a4).toInt = (a4).toInt) (by decide : (1 : Int32).toInt = 1)).trans (decide_eq_true (by omega))) ?_
    refine E_iconst (x := 0) rfl (by decide) ?_
    have e28 : Ev ab_Z0 3 186 [.ref 65, .int 2, .int a2, .int 40, .int 0] (w0.set 48 (.inl [0, 0, 0, 1, 0, 0, 0, 0])) (some (.int (-3)), (w0.set 48 (.inl [0, 0, 0, 1, 0, 0, 0, 0]))) := by
      refine Ef.in (md := mX6_barsOf) (L := [some (.ref 65), some (.int 2), some (.int a2), some (.int 40), some (.int 0), none]) rfl (Nat.le_of_ble_eq_true rfl) rfl ?_
      refine E_aload_n rfl rfl ?_
      refine E_iload_n rfl rfl ?_
      refine E_callV (v := some (.int (-3))) (As := [.ref 65, .int 2]) (r0 := []) (cs2 := (w0.set 48 (.inl [0, 0, 0, 1, 0, 0, 0, 0]))) rfl rfl rfl (Nat.le_of_ble_eq_true rfl) rfl rfl c211_X6_wanted (by decide) rfl ?_
      refine E_istore (L2 := [some (.ref 65), some (.int 2), some (.int a2), some (.int 40), some (.int 0), some (.int (-3))]) rfl rfl ?_
      refine E_iload rfl rfl ?_
      refine E_if (t := 17) (b := false) rfl rfl (by decide) ?_
      refine E_iload rfl rfl ?_
      refine E_goto (t := 59) rfl rfl ?_
      exact E_iret rfl rfl
    refine E_callV (v := some (.int (-3))) (As := [.ref 65, .int 2, .int a2, .int 40, .int 0]) (r0 := []) (cs2 := (w0.set 48 (.inl [0, 0, 0, 1, 0, 0, 0, 0]))) rfl rfl rfl (Nat.le_of_ble_eq_true rfl) rfl rfl e28 (by decide) rfl ?_
    refine E_istore (L2 := [some (.ref 65), some (.int 2), some (.int a2), some (.int a3), some (.int a4), some (.int (-3)), none, none, none, none, none, none]) rfl rfl ?_
    refine E_iconst (x := 0) rfl (by decide) ?_
    refine E_istore (L2 := [some (.ref 65), some (.int 2), some (.int a2), some (.int a3), some (.int a4), some (.int (-3)), some (.int 0), none, none, none, none, none]) rfl rfl ?_
    refine E_iload rfl rfl ?_
    refine E_iload_n rfl rfl ?_
    refine E_ic (t := 80) (b := true) rfl rfl ((cn_ge (by decide : (0 : Int32).toInt = 0) (rfl : (a2).toInt = (a2).toInt)).trans (decide_eq_true (by omega))) ?_
    refine E_iload rfl rfl ?_
    refine E_if (t := 92) (b := false) rfl rfl (by decide) ?_
    refine E_aload_n rfl rfl ?_
    refine E_iload rfl rfl ?_
    refine E_callV (v := some (.int (-13))) (As := [.ref 65, .int (-3)]) (r0 := []) (cs2 := ((w0.set 48 (.inl [0, 0, 0, 1, 0, 0, 0, 0])).set 66 (.inl [0, 0, 0, 1, 0, 0, 0, 0]))) rfl rfl rfl (Nat.le_of_ble_eq_true rfl) rfl rfl c258_X6_noTen (by decide) (by simp only [List.length_set]) ?_
    exact E_iret rfl rfl, (by simp only [List.length_set]; rfl), (by simp only [List.length_set]; rfl), ((ab_szs rfl).trans ((ab_szs rfl).trans rfl)), fun _ => rfl⟩
theorem f_costs_70 (a2 a3 a4 : Int32) (ha2l : (1 : Int) ≤ a2.toInt) (ha3l : (0 : Int) ≤ a3.toInt) (ha3h : a3.toInt ≤ 7) (ha4l : (2 : Int) ≤ a4.toInt) : p1_P 6 100 4 188 [.ref 0, .int 2, .int a2, .int a3, .int a4] [.ref 65, .int 2, .int a2, .int a3, .int a4] :=
  ⟨(-13), (w0.set 48 (.inl [0, 0, 0, 1, 0, 0, 0, 0])), ((w0.set 48 (.inl [0, 0, 0, 1, 0, 0, 0, 0])).set 66 (.inl [0, 0, 0, 1, 0, 0, 0, 0])), by
    refine Ef.in (md := mX5_costs) (L := [some (.ref 0), some (.int 2), some (.int a2), some (.int a3), some (.int a4), none, none, none, none]) rfl (Nat.le_of_ble_eq_true rfl) rfl ?_
    refine E_iload_n rfl rfl ?_
    have e2 : Ev ab_Z0 1 47 [.int a3] w0 (some (.int 1), w0) := by
      refine Ef.in (md := mX4_isWish) (L := [some (.int a3)]) rfl (Nat.le_of_ble_eq_true rfl) rfl ?_
      refine E_iload_n rfl rfl ?_
      refine E_if (t := 14) (b := false) rfl rfl ((cn_lt (rfl : (a3).toInt = (a3).toInt) (by decide : (0 : Int32).toInt = 0)).trans (decide_eq_false (by omega))) ?_
      refine E_iload_n rfl rfl ?_
      refine E_bipush (x := 8) rfl (by decide) ?_
      refine E_ic (t := 14) (b := false) rfl rfl ((cn_ge (rfl : (a3).toInt = (a3).toInt) (by decide : (8 : Int32).toInt = 8)).trans (decide_eq_false (by omega))) ?_
      refine E_iconst (x := 1) rfl (by decide) ?_
      refine E_goto (t := 15) rfl rfl ?_
      exact E_iret rfl rfl
    refine E_callS (v := some (.int 1)) (As := [.int a3]) (r0 := []) (cs2 := w0) rfl rfl rfl (Nat.le_of_ble_eq_true rfl) rfl e2 (by decide) rfl ?_
    refine E_if (t := 31) (b := false) rfl rfl (by decide) ?_
    refine E_aload_n rfl rfl ?_
    refine E_iload_n rfl rfl ?_
    refine E_iload_n rfl rfl ?_
    refine E_bipush (x := 40) rfl (by decide) ?_
    refine E_iload rfl rfl ?_
    have e19 : Ev ab_Z0 1 116 [.int a4] w0 (some (.int 0), w0) := by
      refine Ef.in (md := mX5_isOneOfTwo) (L := [some (.int a4)]) rfl (Nat.le_of_ble_eq_true rfl) rfl ?_
      refine E_iload_n rfl rfl ?_
      refine E_if (t := 9) (b := false) rfl rfl ((cn_eq (rfl : (a4).toInt = (a4).toInt) (by decide : (0 : Int32).toInt = 0)).trans (decide_eq_false (by omega))) ?_
      refine E_iload_n rfl rfl ?_
      refine E_iconst (x := 1) rfl (by decide) ?_
      refine E_ic (t := 13) (b := true) rfl rfl ((cn_ne (rfl : (a4).toInt = (a4).toInt) (by decide : (1 : Int32).toInt = 1)).trans (decide_eq_true (by omega))) ?_
      refine E_iconst (x := 0) rfl (by decide) ?_
      exact E_iret rfl rfl
    refine E_callS (v := some (.int 0)) (As := [.int a4]) (r0 := [.int 40, .int a2, .int 2, .ref 0]) (cs2 := w0) rfl rfl rfl (Nat.le_of_ble_eq_true rfl) rfl e19 (by decide) rfl ?_
    refine E_if (t := 24) (b := false) rfl rfl (by decide) ?_
    refine E_iconst (x := 1) rfl (by decide) ?_
    refine E_goto (t := 25) rfl rfl ?_
    have e32 : Ev ab_Z0 3 120 [.ref 0, .int 2, .int a2, .int 40, .int 1] w0 (some (.int 3), w0) := by
      refine Ef.in (md := mX5_whyNoTwos) (L := [some (.ref 0), some (.int 2), some (.int a2), some (.int 40), some (.int 1), none]) rfl (Nat.le_of_ble_eq_true rfl) rfl ?_
      refine E_aload_n rfl rfl ?_
      refine E_iload_n rfl rfl ?_
      refine E_callV (v := some (.int 3)) (As := [.ref 0, .int 2]) (r0 := []) (cs2 := w0) rfl rfl rfl (Nat.le_of_ble_eq_true rfl) rfl rfl c40_X5_whyNoRow (by decide) rfl ?_
      refine E_istore (L2 := [some (.ref 0), some (.int 2), some (.int a2), some (.int 40), some (.int 1), some (.int 3)]) rfl rfl ?_
      refine E_iload rfl rfl ?_
      refine E_if (t := 15) (b := false) rfl rfl (by decide) ?_
      refine E_iload rfl rfl ?_
      exact E_iret rfl rfl
    refine E_callV (v := some (.int 3)) (As := [.ref 0, .int 2, .int a2, .int 40, .int 1]) (r0 := []) (cs2 := w0) rfl rfl rfl (Nat.le_of_ble_eq_true rfl) rfl rfl e32 (by decide) rfl ?_
    refine E_goto (t := 32) rfl rfl ?_
    refine E_istore (L2 := [some (.ref 0), some (.int 2), some (.int a2), some (.int a3), some (.int a4), some (.int 3), none, none, none]) rfl rfl ?_
    refine E_iload rfl rfl ?_
    refine E_if (t := 56) (b := true) rfl rfl (by decide) ?_
    refine E_iload rfl rfl ?_
    refine E_if (t := 71) (b := false) rfl rfl (by decide) ?_
    refine E_aload_n rfl rfl ?_
    refine E_iload rfl rfl ?_
    refine E_callV (v := some (.int (-3))) (As := [.ref 0, .int 3]) (r0 := []) (cs2 := (w0.set 48 (.inl [0, 0, 0, 1, 0, 0, 0, 0]))) rfl rfl rfl (Nat.le_of_ble_eq_true rfl) rfl rfl c32_X5_refuse (by decide) (by simp only [List.length_set]) ?_
    refine E_bipush (x := 10) rfl (by decide) ?_
    refine E_isub (z := (-13)) rfl (by decide) ?_
    exact E_iret rfl rfl, by
    refine Ef.in (md := mX6_costs) (L := [some (.ref 65), some (.int 2), some (.int a2), some (.int a3), some (.int a4), none, none, none, none, none, none, none]) rfl (Nat.le_of_ble_eq_true rfl) rfl ?_
    refine E_aload_n rfl rfl ?_
    refine E_iload_n rfl rfl ?_
    refine E_iconst (x := 0) rfl (by decide) ?_
    refine E_bipush (x := 7) rfl (by decide) ?_
    have e5 : Ev ab_Z0 1 134 [.ref 65, .int a3, .int 0, .int 7] (w0.set 48 (.inl [0, 0, 0, 1, 0, 0, 0, 0])) (some (.int 1), (w0.set 48 (.inl [0, 0, 0, 1, 0, 0, 0, 0]))) := by
      refine Ef.in (md := mX6_isFrom) (L := [some (.ref 65), some (.int a3), some (.int 0), some (.int 7)]) rfl (Nat.le_of_ble_eq_true rfl) rfl ?_
      refine E_iload_n rfl rfl ?_
      refine E_iload_n rfl rfl ?_
      refine E_ic (t := 14) (b := false) rfl rfl ((cn_lt (rfl : (a3).toInt = (a3).toInt) (by decide : (0 : Int32).toInt = 0)).trans (decide_eq_false (by omega))) ?_
      refine E_iload_n rfl rfl ?_
      refine E_iload_n rfl rfl ?_
      refine E_ic (t := 14) (b := false) rfl rfl ((cn_gt (rfl : (a3).toInt = (a3).toInt) (by decide : (7 : Int32).toInt = 7)).trans (decide_eq_false (by omega))) ?_
      refine E_iconst (x := 1) rfl (by decide) ?_
      refine E_goto (t := 15) rfl rfl ?_
      exact E_iret rfl rfl
    refine E_callV (v := some (.int 1)) (As := [.ref 65, .int a3, .int 0, .int 7]) (r0 := []) (cs2 := (w0.set 48 (.inl [0, 0, 0, 1, 0, 0, 0, 0]))) rfl rfl rfl (Nat.le_of_ble_eq_true rfl) rfl rfl e5 (by decide) rfl ?_
    refine E_if (t := 15) (b := true) rfl rfl (by decide) ?_
    refine E_aload_n rfl rfl ?_
    refine E_iload_n rfl rfl ?_
    refine E_iload_n rfl rfl ?_
    refine E_bipush (x := 40) rfl (by decide) ?_
    refine E_iload rfl rfl ?_
    refine E_if (t := 31) (b := false) rfl rfl ((cn_eq (rfl : (a4).toInt = (a4).toInt) (by decide : (0 : Int32).toInt = 0)).trans (decide_eq_false (by omega))) ?_
    refine E_iload rfl rfl ?_
    refine E_iconst (x := 1) rfl (by decide) ?_
    refine E_ic (t := 35) (b := true) rfl rfl ((cn_ne (rfl : (a4).toInt = (a4).toInt) (by decide : (1 : Int32).toInt = 1)).trans (decide_eq_true (by omega))) ?_
    refine E_iconst (x := 0) rfl (by decide) ?_
    have e28 : Ev ab_Z0 3 186 [.ref 65, .int 2, .int a2, .int 40, .int 0] (w0.set 48 (.inl [0, 0, 0, 1, 0, 0, 0, 0])) (some (.int (-3)), (w0.set 48 (.inl [0, 0, 0, 1, 0, 0, 0, 0]))) := by
      refine Ef.in (md := mX6_barsOf) (L := [some (.ref 65), some (.int 2), some (.int a2), some (.int 40), some (.int 0), none]) rfl (Nat.le_of_ble_eq_true rfl) rfl ?_
      refine E_aload_n rfl rfl ?_
      refine E_iload_n rfl rfl ?_
      refine E_callV (v := some (.int (-3))) (As := [.ref 65, .int 2]) (r0 := []) (cs2 := (w0.set 48 (.inl [0, 0, 0, 1, 0, 0, 0, 0]))) rfl rfl rfl (Nat.le_of_ble_eq_true rfl) rfl rfl c211_X6_wanted (by decide) rfl ?_
      refine E_istore (L2 := [some (.ref 65), some (.int 2), some (.int a2), some (.int 40), some (.int 0), some (.int (-3))]) rfl rfl ?_
      refine E_iload rfl rfl ?_
      refine E_if (t := 17) (b := false) rfl rfl (by decide) ?_
      refine E_iload rfl rfl ?_
      refine E_goto (t := 59) rfl rfl ?_
      exact E_iret rfl rfl
    refine E_callV (v := some (.int (-3))) (As := [.ref 65, .int 2, .int a2, .int 40, .int 0]) (r0 := []) (cs2 := (w0.set 48 (.inl [0, 0, 0, 1, 0, 0, 0, 0]))) rfl rfl rfl (Nat.le_of_ble_eq_true rfl) rfl rfl e28 (by decide) rfl ?_
    refine E_istore (L2 := [some (.ref 65), some (.int 2), some (.int a2), some (.int a3), some (.int a4), some (.int (-3)), none, none, none, none, none, none]) rfl rfl ?_
    refine E_iconst (x := 0) rfl (by decide) ?_
    refine E_istore (L2 := [some (.ref 65), some (.int 2), some (.int a2), some (.int a3), some (.int a4), some (.int (-3)), some (.int 0), none, none, none, none, none]) rfl rfl ?_
    refine E_iload rfl rfl ?_
    refine E_iload_n rfl rfl ?_
    refine E_ic (t := 80) (b := false) rfl rfl ((cn_ge (by decide : (0 : Int32).toInt = 0) (rfl : (a2).toInt = (a2).toInt)).trans (decide_eq_false (by omega))) ?_
    refine E_iload rfl rfl ?_
    refine E_if (t := 80) (b := true) rfl rfl (by decide) ?_
    refine E_iload rfl rfl ?_
    refine E_if (t := 92) (b := false) rfl rfl (by decide) ?_
    refine E_aload_n rfl rfl ?_
    refine E_iload rfl rfl ?_
    refine E_callV (v := some (.int (-13))) (As := [.ref 65, .int (-3)]) (r0 := []) (cs2 := ((w0.set 48 (.inl [0, 0, 0, 1, 0, 0, 0, 0])).set 66 (.inl [0, 0, 0, 1, 0, 0, 0, 0]))) rfl rfl rfl (Nat.le_of_ble_eq_true rfl) rfl rfl c258_X6_noTen (by decide) (by simp only [List.length_set]) ?_
    exact E_iret rfl rfl, (by simp only [List.length_set]; rfl), (by simp only [List.length_set]; rfl), ((ab_szs rfl).trans ((ab_szs rfl).trans rfl)), fun _ => rfl⟩
theorem f_costs_71 (a2 a3 a4 : Int32) (ha2h : a2.toInt ≤ 0) (ha3l : (0 : Int) ≤ a3.toInt) (ha3h : a3.toInt ≤ 7) (ha4l : (2 : Int) ≤ a4.toInt) : p1_P 6 100 4 188 [.ref 0, .int 3, .int a2, .int a3, .int a4] [.ref 65, .int 3, .int a2, .int a3, .int a4] :=
  ⟨(-13), (w0.set 48 (.inl [0, 0, 0, 1, 0, 0, 0, 0])), ((w0.set 48 (.inl [0, 0, 0, 1, 0, 0, 0, 0])).set 66 (.inl [0, 0, 0, 1, 0, 0, 0, 0])), by
    refine Ef.in (md := mX5_costs) (L := [some (.ref 0), some (.int 3), some (.int a2), some (.int a3), some (.int a4), none, none, none, none]) rfl (Nat.le_of_ble_eq_true rfl) rfl ?_
    refine E_iload_n rfl rfl ?_
    have e2 : Ev ab_Z0 1 47 [.int a3] w0 (some (.int 1), w0) := by
      refine Ef.in (md := mX4_isWish) (L := [some (.int a3)]) rfl (Nat.le_of_ble_eq_true rfl) rfl ?_
      refine E_iload_n rfl rfl ?_
      refine E_if (t := 14) (b := false) rfl rfl ((cn_lt (rfl : (a3).toInt = (a3).toInt) (by decide : (0 : Int32).toInt = 0)).trans (decide_eq_false (by omega))) ?_
      refine E_iload_n rfl rfl ?_
      refine E_bipush (x := 8) rfl (by decide) ?_
      refine E_ic (t := 14) (b := false) rfl rfl ((cn_ge (rfl : (a3).toInt = (a3).toInt) (by decide : (8 : Int32).toInt = 8)).trans (decide_eq_false (by omega))) ?_
      refine E_iconst (x := 1) rfl (by decide) ?_
      refine E_goto (t := 15) rfl rfl ?_
      exact E_iret rfl rfl
    refine E_callS (v := some (.int 1)) (As := [.int a3]) (r0 := []) (cs2 := w0) rfl rfl rfl (Nat.le_of_ble_eq_true rfl) rfl e2 (by decide) rfl ?_
    refine E_if (t := 31) (b := false) rfl rfl (by decide) ?_
    refine E_aload_n rfl rfl ?_
    refine E_iload_n rfl rfl ?_
    refine E_iload_n rfl rfl ?_
    refine E_bipush (x := 40) rfl (by decide) ?_
    refine E_iload rfl rfl ?_
    have e19 : Ev ab_Z0 1 116 [.int a4] w0 (some (.int 0), w0) := by
      refine Ef.in (md := mX5_isOneOfTwo) (L := [some (.int a4)]) rfl (Nat.le_of_ble_eq_true rfl) rfl ?_
      refine E_iload_n rfl rfl ?_
      refine E_if (t := 9) (b := false) rfl rfl ((cn_eq (rfl : (a4).toInt = (a4).toInt) (by decide : (0 : Int32).toInt = 0)).trans (decide_eq_false (by omega))) ?_
      refine E_iload_n rfl rfl ?_
      refine E_iconst (x := 1) rfl (by decide) ?_
      refine E_ic (t := 13) (b := true) rfl rfl ((cn_ne (rfl : (a4).toInt = (a4).toInt) (by decide : (1 : Int32).toInt = 1)).trans (decide_eq_true (by omega))) ?_
      refine E_iconst (x := 0) rfl (by decide) ?_
      exact E_iret rfl rfl
    refine E_callS (v := some (.int 0)) (As := [.int a4]) (r0 := [.int 40, .int a2, .int 3, .ref 0]) (cs2 := w0) rfl rfl rfl (Nat.le_of_ble_eq_true rfl) rfl e19 (by decide) rfl ?_
    refine E_if (t := 24) (b := false) rfl rfl (by decide) ?_
    refine E_iconst (x := 1) rfl (by decide) ?_
    refine E_goto (t := 25) rfl rfl ?_
    have e32 : Ev ab_Z0 3 120 [.ref 0, .int 3, .int a2, .int 40, .int 1] w0 (some (.int 3), w0) := by
      refine Ef.in (md := mX5_whyNoTwos) (L := [some (.ref 0), some (.int 3), some (.int a2), some (.int 40), some (.int 1), none]) rfl (Nat.le_of_ble_eq_true rfl) rfl ?_
      refine E_aload_n rfl rfl ?_
      refine E_iload_n rfl rfl ?_
      refine E_callV (v := some (.int 3)) (As := [.ref 0, .int 3]) (r0 := []) (cs2 := w0) rfl rfl rfl (Nat.le_of_ble_eq_true rfl) rfl rfl c44_X5_whyNoRow (by decide) rfl ?_
      refine E_istore (L2 := [some (.ref 0), some (.int 3), some (.int a2), some (.int 40), some (.int 1), some (.int 3)]) rfl rfl ?_
      refine E_iload rfl rfl ?_
      refine E_if (t := 15) (b := false) rfl rfl (by decide) ?_
      refine E_iload rfl rfl ?_
      exact E_iret rfl rfl
    refine E_callV (v := some (.int 3)) (As := [.ref 0, .int 3, .int a2, .int 40, .int 1]) (r0 := []) (cs2 := w0) rfl rfl rfl (Nat.le_of_ble_eq_true rfl) rfl rfl e32 (by decide) rfl ?_
    refine E_goto (t := 32) rfl rfl ?_
    refine E_istore (L2 := [some (.ref 0), some (.int 3), some (.int a2), some (.int a3), some (.int a4), some (.int 3), none, none, none]) rfl rfl ?_
    refine E_iload rfl rfl ?_
    refine E_if (t := 56) (b := true) rfl rfl (by decide) ?_
    refine E_iload rfl rfl ?_
    refine E_if (t := 71) (b := false) rfl rfl (by decide) ?_
    refine E_aload_n rfl rfl ?_
    refine E_iload rfl rfl ?_
    refine E_callV (v := some (.int (-3))) (As := [.ref 0, .int 3]) (r0 := []) (cs2 := (w0.set 48 (.inl [0, 0, 0, 1, 0, 0, 0, 0]))) rfl rfl rfl (Nat.le_of_ble_eq_true rfl) rfl rfl c32_X5_refuse (by decide) (by simp only [List.length_set]) ?_
    refine E_bipush (x := 10) rfl (by decide) ?_
    refine E_isub (z := (-13)) rfl (by decide) ?_
    exact E_iret rfl rfl, by
    refine Ef.in (md := mX6_costs) (L := [some (.ref 65), some (.int 3), some (.int a2), some (.int a3), some (.int a4), none, none, none, none, none, none, none]) rfl (Nat.le_of_ble_eq_true rfl) rfl ?_
    refine E_aload_n rfl rfl ?_
    refine E_iload_n rfl rfl ?_
    refine E_iconst (x := 0) rfl (by decide) ?_
    refine E_bipush (x := 7) rfl (by decide) ?_
    have e5 : Ev ab_Z0 1 134 [.ref 65, .int a3, .int 0, .int 7] (w0.set 48 (.inl [0, 0, 0, 1, 0, 0, 0, 0])) (some (.int 1), (w0.set 48 (.inl [0, 0, 0, 1, 0, 0, 0, 0]))) := by
      refine Ef.in (md := mX6_isFrom) (L := [some (.ref 65), some (.int a3), some (.int 0), some (.int 7)]) rfl (Nat.le_of_ble_eq_true rfl) rfl ?_
      refine E_iload_n rfl rfl ?_
      refine E_iload_n rfl rfl ?_
      refine E_ic (t := 14) (b := false) rfl rfl ((cn_lt (rfl : (a3).toInt = (a3).toInt) (by decide : (0 : Int32).toInt = 0)).trans (decide_eq_false (by omega))) ?_
      refine E_iload_n rfl rfl ?_
      refine E_iload_n rfl rfl ?_
      refine E_ic (t := 14) (b := false) rfl rfl ((cn_gt (rfl : (a3).toInt = (a3).toInt) (by decide : (7 : Int32).toInt = 7)).trans (decide_eq_false (by omega))) ?_
      refine E_iconst (x := 1) rfl (by decide) ?_
      refine E_goto (t := 15) rfl rfl ?_
      exact E_iret rfl rfl
    refine E_callV (v := some (.int 1)) (As := [.ref 65, .int a3, .int 0, .int 7]) (r0 := []) (cs2 := (w0.set 48 (.inl [0, 0, 0, 1, 0, 0, 0, 0]))) rfl rfl rfl (Nat.le_of_ble_eq_true rfl) rfl rfl e5 (by decide) rfl ?_
    refine E_if (t := 15) (b := true) rfl rfl (by decide) ?_
    refine E_aload_n rfl rfl ?_
    refine E_iload_n rfl rfl ?_
    refine E_iload_n rfl rfl ?_
    refine E_bipush (x := 40) rfl (by decide) ?_
    refine E_iload rfl rfl ?_
    refine E_if (t := 31) (b := false) rfl rfl ((cn_eq (rfl : (a4).toInt = (a4).toInt) (by decide : (0 : Int32).toInt = 0)).trans (decide_eq_false (by omega))) ?_
    refine E_iload rfl rfl ?_
    refine E_iconst (x := 1) rfl (by decide) ?_
    refine E_ic (t := 35) (b := true) rfl rfl ((cn_ne (rfl : (a4).toInt = (a4).toInt) (by decide : (1 : Int32).toInt = 1)).trans (decide_eq_true (by omega))) ?_
    refine E_iconst (x := 0) rfl (by decide) ?_
    have e28 : Ev ab_Z0 3 186 [.ref 65, .int 3, .int a2, .int 40, .int 0] (w0.set 48 (.inl [0, 0, 0, 1, 0, 0, 0, 0])) (some (.int (-3)), (w0.set 48 (.inl [0, 0, 0, 1, 0, 0, 0, 0]))) := by
      refine Ef.in (md := mX6_barsOf) (L := [some (.ref 65), some (.int 3), some (.int a2), some (.int 40), some (.int 0), none]) rfl (Nat.le_of_ble_eq_true rfl) rfl ?_
      refine E_aload_n rfl rfl ?_
      refine E_iload_n rfl rfl ?_
      refine E_callV (v := some (.int (-3))) (As := [.ref 65, .int 3]) (r0 := []) (cs2 := (w0.set 48 (.inl [0, 0, 0, 1, 0, 0, 0, 0]))) rfl rfl rfl (Nat.le_of_ble_eq_true rfl) rfl rfl c214_X6_wanted (by decide) rfl ?_
      refine E_istore (L2 := [some (.ref 65), some (.int 3), some (.int a2), some (.int 40), some (.int 0), some (.int (-3))]) rfl rfl ?_
      refine E_iload rfl rfl ?_
      refine E_if (t := 17) (b := false) rfl rfl (by decide) ?_
      refine E_iload rfl rfl ?_
      refine E_goto (t := 59) rfl rfl ?_
      exact E_iret rfl rfl
    refine E_callV (v := some (.int (-3))) (As := [.ref 65, .int 3, .int a2, .int 40, .int 0]) (r0 := []) (cs2 := (w0.set 48 (.inl [0, 0, 0, 1, 0, 0, 0, 0]))) rfl rfl rfl (Nat.le_of_ble_eq_true rfl) rfl rfl e28 (by decide) rfl ?_
    refine E_istore (L2 := [some (.ref 65), some (.int 3), some (.int a2), some (.int a3), some (.int a4), some (.int (-3)), none, none, none, none, none, none]) rfl rfl ?_
    refine E_iconst (x := 0) rfl (by decide) ?_
    refine E_istore (L2 := [some (.ref 65), some (.int 3), some (.int a2), some (.int a3), some (.int a4), some (.int (-3)), some (.int 0), none, none, none, none, none]) rfl rfl ?_
    refine E_iload rfl rfl ?_
    refine E_iload_n rfl rfl ?_
    refine E_ic (t := 80) (b := true) rfl rfl ((cn_ge (by decide : (0 : Int32).toInt = 0) (rfl : (a2).toInt = (a2).toInt)).trans (decide_eq_true (by omega))) ?_
    refine E_iload rfl rfl ?_
    refine E_if (t := 92) (b := false) rfl rfl (by decide) ?_
    refine E_aload_n rfl rfl ?_
    refine E_iload rfl rfl ?_
    refine E_callV (v := some (.int (-13))) (As := [.ref 65, .int (-3)]) (r0 := []) (cs2 := ((w0.set 48 (.inl [0, 0, 0, 1, 0, 0, 0, 0])).set 66 (.inl [0, 0, 0, 1, 0, 0, 0, 0]))) rfl rfl rfl (Nat.le_of_ble_eq_true rfl) rfl rfl c258_X6_noTen (by decide) (by simp only [List.length_set]) ?_
    exact E_iret rfl rfl, (by simp only [List.length_set]; rfl), (by simp only [List.length_set]; rfl), ((ab_szs rfl).trans ((ab_szs rfl).trans rfl)), fun _ => rfl⟩
theorem f_costs_72 (a2 a3 a4 : Int32) (ha2l : (1 : Int) ≤ a2.toInt) (ha3l : (0 : Int) ≤ a3.toInt) (ha3h : a3.toInt ≤ 7) (ha4l : (2 : Int) ≤ a4.toInt) : p1_P 6 100 4 188 [.ref 0, .int 3, .int a2, .int a3, .int a4] [.ref 65, .int 3, .int a2, .int a3, .int a4] :=
  ⟨(-13), (w0.set 48 (.inl [0, 0, 0, 1, 0, 0, 0, 0])), ((w0.set 48 (.inl [0, 0, 0, 1, 0, 0, 0, 0])).set 66 (.inl [0, 0, 0, 1, 0, 0, 0, 0])), by
    refine Ef.in (md := mX5_costs) (L := [some (.ref 0), some (.int 3), some (.int a2), some (.int a3), some (.int a4), none, none, none, none]) rfl (Nat.le_of_ble_eq_true rfl) rfl ?_
    refine E_iload_n rfl rfl ?_
    have e2 : Ev ab_Z0 1 47 [.int a3] w0 (some (.int 1), w0) := by
      refine Ef.in (md := mX4_isWish) (L := [some (.int a3)]) rfl (Nat.le_of_ble_eq_true rfl) rfl ?_
      refine E_iload_n rfl rfl ?_
      refine E_if (t := 14) (b := false) rfl rfl ((cn_lt (rfl : (a3).toInt = (a3).toInt) (by decide : (0 : Int32).toInt = 0)).trans (decide_eq_false (by omega))) ?_
      refine E_iload_n rfl rfl ?_
      refine E_bipush (x := 8) rfl (by decide) ?_
      refine E_ic (t := 14) (b := false) rfl rfl ((cn_ge (rfl : (a3).toInt = (a3).toInt) (by decide : (8 : Int32).toInt = 8)).trans (decide_eq_false (by omega))) ?_
      refine E_iconst (x := 1) rfl (by decide) ?_
      refine E_goto (t := 15) rfl rfl ?_
      exact E_iret rfl rfl
    refine E_callS (v := some (.int 1)) (As := [.int a3]) (r0 := []) (cs2 := w0) rfl rfl rfl (Nat.le_of_ble_eq_true rfl) rfl e2 (by decide) rfl ?_
    refine E_if (t := 31) (b := false) rfl rfl (by decide) ?_
    refine E_aload_n rfl rfl ?_
    refine E_iload_n rfl rfl ?_
    refine E_iload_n rfl rfl ?_
    refine E_bipush (x := 40) rfl (by decide) ?_
    refine E_iload rfl rfl ?_
    have e19 : Ev ab_Z0 1 116 [.int a4] w0 (some (.int 0), w0) := by
      refine Ef.in (md := mX5_isOneOfTwo) (L := [some (.int a4)]) rfl (Nat.le_of_ble_eq_true rfl) rfl ?_
      refine E_iload_n rfl rfl ?_
      refine E_if (t := 9) (b := false) rfl rfl ((cn_eq (rfl : (a4).toInt = (a4).toInt) (by decide : (0 : Int32).toInt = 0)).trans (decide_eq_false (by omega))) ?_
      refine E_iload_n rfl rfl ?_
      refine E_iconst (x := 1) rfl (by decide) ?_
      refine E_ic (t := 13) (b := true) rfl rfl ((cn_ne (rfl : (a4).toInt = (a4).toInt) (by decide : (1 : Int32).toInt = 1)).trans (decide_eq_true (by omega))) ?_
      refine E_iconst (x := 0) rfl (by decide) ?_
      exact E_iret rfl rfl
    refine E_callS (v := some (.int 0)) (As := [.int a4]) (r0 := [.int 40, .int a2, .int 3, .ref 0]) (cs2 := w0) rfl rfl rfl (Nat.le_of_ble_eq_true rfl) rfl e19 (by decide) rfl ?_
    refine E_if (t := 24) (b := false) rfl rfl (by decide) ?_
    refine E_iconst (x := 1) rfl (by decide) ?_
    refine E_goto (t := 25) rfl rfl ?_
    have e32 : Ev ab_Z0 3 120 [.ref 0, .int 3, .int a2, .int 40, .int 1] w0 (some (.int 3), w0) := by
      refine Ef.in (md := mX5_whyNoTwos) (L := [some (.ref 0), some (.int 3), some (.int a2), some (.int 40), some (.int 1), none]) rfl (Nat.le_of_ble_eq_true rfl) rfl ?_
      refine E_aload_n rfl rfl ?_
      refine E_iload_n rfl rfl ?_
      refine E_callV (v := some (.int 3)) (As := [.ref 0, .int 3]) (r0 := []) (cs2 := w0) rfl rfl rfl (Nat.le_of_ble_eq_true rfl) rfl rfl c44_X5_whyNoRow (by decide) rfl ?_
      refine E_istore (L2 := [some (.ref 0), some (.int 3), some (.int a2), some (.int 40), some (.int 1), some (.int 3)]) rfl rfl ?_
      refine E_iload rfl rfl ?_
      refine E_if (t := 15) (b := false) rfl rfl (by decide) ?_
      refine E_iload rfl rfl ?_
      exact E_iret rfl rfl
    refine E_callV (v := some (.int 3)) (As := [.ref 0, .int 3, .int a2, .int 40, .int 1]) (r0 := []) (cs2 := w0) rfl rfl rfl (Nat.le_of_ble_eq_true rfl) rfl rfl e32 (by decide) rfl ?_
    refine E_goto (t := 32) rfl rfl ?_
    refine E_istore (L2 := [some (.ref 0), some (.int 3), some (.int a2), some (.int a3), some (.int a4), some (.int 3), none, none, none]) rfl rfl ?_
    refine E_iload rfl rfl ?_
    refine E_if (t := 56) (b := true) rfl rfl (by decide) ?_
    refine E_iload rfl rfl ?_
    refine E_if (t := 71) (b := false) rfl rfl (by decide) ?_
    refine E_aload_n rfl rfl ?_
    refine E_iload rfl rfl ?_
    refine E_callV (v := some (.int (-3))) (As := [.ref 0, .int 3]) (r0 := []) (cs2 := (w0.set 48 (.inl [0, 0, 0, 1, 0, 0, 0, 0]))) rfl rfl rfl (Nat.le_of_ble_eq_true rfl) rfl rfl c32_X5_refuse (by decide) (by simp only [List.length_set]) ?_
    refine E_bipush (x := 10) rfl (by decide) ?_
    refine E_isub (z := (-13)) rfl (by decide) ?_
    exact E_iret rfl rfl, by
    refine Ef.in (md := mX6_costs) (L := [some (.ref 65), some (.int 3), some (.int a2), some (.int a3), some (.int a4), none, none, none, none, none, none, none]) rfl (Nat.le_of_ble_eq_true rfl) rfl ?_
    refine E_aload_n rfl rfl ?_
    refine E_iload_n rfl rfl ?_
    refine E_iconst (x := 0) rfl (by decide) ?_
    refine E_bipush (x := 7) rfl (by decide) ?_
    have e5 : Ev ab_Z0 1 134 [.ref 65, .int a3, .int 0, .int 7] (w0.set 48 (.inl [0, 0, 0, 1, 0, 0, 0, 0])) (some (.int 1), (w0.set 48 (.inl [0, 0, 0, 1, 0, 0, 0, 0]))) := by
      refine Ef.in (md := mX6_isFrom) (L := [some (.ref 65), some (.int a3), some (.int 0), some (.int 7)]) rfl (Nat.le_of_ble_eq_true rfl) rfl ?_
      refine E_iload_n rfl rfl ?_
      refine E_iload_n rfl rfl ?_
      refine E_ic (t := 14) (b := false) rfl rfl ((cn_lt (rfl : (a3).toInt = (a3).toInt) (by decide : (0 : Int32).toInt = 0)).trans (decide_eq_false (by omega))) ?_
      refine E_iload_n rfl rfl ?_
      refine E_iload_n rfl rfl ?_
      refine E_ic (t := 14) (b := false) rfl rfl ((cn_gt (rfl : (a3).toInt = (a3).toInt) (by decide : (7 : Int32).toInt = 7)).trans (decide_eq_false (by omega))) ?_
      refine E_iconst (x := 1) rfl (by decide) ?_
      refine E_goto (t := 15) rfl rfl ?_
      exact E_iret rfl rfl
    refine E_callV (v := some (.int 1)) (As := [.ref 65, .int a3, .int 0, .int 7]) (r0 := []) (cs2 := (w0.set 48 (.inl [0, 0, 0, 1, 0, 0, 0, 0]))) rfl rfl rfl (Nat.le_of_ble_eq_true rfl) rfl rfl e5 (by decide) rfl ?_
    refine E_if (t := 15) (b := true) rfl rfl (by decide) ?_
    refine E_aload_n rfl rfl ?_
    refine E_iload_n rfl rfl ?_
    refine E_iload_n rfl rfl ?_
    refine E_bipush (x := 40) rfl (by decide) ?_
    refine E_iload rfl rfl ?_
    refine E_if (t := 31) (b := false) rfl rfl ((cn_eq (rfl : (a4).toInt = (a4).toInt) (by decide : (0 : Int32).toInt = 0)).trans (decide_eq_false (by omega))) ?_
    refine E_iload rfl rfl ?_
    refine E_iconst (x := 1) rfl (by decide) ?_
    refine E_ic (t := 35) (b := true) rfl rfl ((cn_ne (rfl : (a4).toInt = (a4).toInt) (by decide : (1 : Int32).toInt = 1)).trans (decide_eq_true (by omega))) ?_
    refine E_iconst (x := 0) rfl (by decide) ?_
    have e28 : Ev ab_Z0 3 186 [.ref 65, .int 3, .int a2, .int 40, .int 0] (w0.set 48 (.inl [0, 0, 0, 1, 0, 0, 0, 0])) (some (.int (-3)), (w0.set 48 (.inl [0, 0, 0, 1, 0, 0, 0, 0]))) := by
      refine Ef.in (md := mX6_barsOf) (L := [some (.ref 65), some (.int 3), some (.int a2), some (.int 40), some (.int 0), none]) rfl (Nat.le_of_ble_eq_true rfl) rfl ?_
      refine E_aload_n rfl rfl ?_
      refine E_iload_n rfl rfl ?_
      refine E_callV (v := some (.int (-3))) (As := [.ref 65, .int 3]) (r0 := []) (cs2 := (w0.set 48 (.inl [0, 0, 0, 1, 0, 0, 0, 0]))) rfl rfl rfl (Nat.le_of_ble_eq_true rfl) rfl rfl c214_X6_wanted (by decide) rfl ?_
      refine E_istore (L2 := [some (.ref 65), some (.int 3), some (.int a2), some (.int 40), some (.int 0), some (.int (-3))]) rfl rfl ?_
      refine E_iload rfl rfl ?_
      refine E_if (t := 17) (b := false) rfl rfl (by decide) ?_
      refine E_iload rfl rfl ?_
      refine E_goto (t := 59) rfl rfl ?_
      exact E_iret rfl rfl
    refine E_callV (v := some (.int (-3))) (As := [.ref 65, .int 3, .int a2, .int 40, .int 0]) (r0 := []) (cs2 := (w0.set 48 (.inl [0, 0, 0, 1, 0, 0, 0, 0]))) rfl rfl rfl (Nat.le_of_ble_eq_true rfl) rfl rfl e28 (by decide) rfl ?_
    refine E_istore (L2 := [some (.ref 65), some (.int 3), some (.int a2), some (.int a3), some (.int a4), some (.int (-3)), none, none, none, none, none, none]) rfl rfl ?_
    refine E_iconst (x := 0) rfl (by decide) ?_
    refine E_istore (L2 := [some (.ref 65), some (.int 3), some (.int a2), some (.int a3), some (.int a4), some (.int (-3)), some (.int 0), none, none, none, none, none]) rfl rfl ?_
    refine E_iload rfl rfl ?_
    refine E_iload_n rfl rfl ?_
    refine E_ic (t := 80) (b := false) rfl rfl ((cn_ge (by decide : (0 : Int32).toInt = 0) (rfl : (a2).toInt = (a2).toInt)).trans (decide_eq_false (by omega))) ?_
    refine E_iload rfl rfl ?_
    refine E_if (t := 80) (b := true) rfl rfl (by decide) ?_
    refine E_iload rfl rfl ?_
    refine E_if (t := 92) (b := false) rfl rfl (by decide) ?_
    refine E_aload_n rfl rfl ?_
    refine E_iload rfl rfl ?_
    refine E_callV (v := some (.int (-13))) (As := [.ref 65, .int (-3)]) (r0 := []) (cs2 := ((w0.set 48 (.inl [0, 0, 0, 1, 0, 0, 0, 0])).set 66 (.inl [0, 0, 0, 1, 0, 0, 0, 0]))) rfl rfl rfl (Nat.le_of_ble_eq_true rfl) rfl rfl c258_X6_noTen (by decide) (by simp only [List.length_set]) ?_
    exact E_iret rfl rfl, (by simp only [List.length_set]; rfl), (by simp only [List.length_set]; rfl), ((ab_szs rfl).trans ((ab_szs rfl).trans rfl)), fun _ => rfl⟩
theorem f_costs_73 (a2 a3 a4 : Int32) (ha2h : a2.toInt ≤ 0) (ha3l : (0 : Int) ≤ a3.toInt) (ha3h : a3.toInt ≤ 7) (ha4l : (2 : Int) ≤ a4.toInt) : p1_P 6 100 4 188 [.ref 0, .int 4, .int a2, .int a3, .int a4] [.ref 65, .int 4, .int a2, .int a3, .int a4] :=
  ⟨(-13), (w0.set 48 (.inl [0, 0, 0, 1, 0, 0, 0, 0])), ((w0.set 48 (.inl [0, 0, 0, 1, 0, 0, 0, 0])).set 66 (.inl [0, 0, 0, 1, 0, 0, 0, 0])), by
    refine Ef.in (md := mX5_costs) (L := [some (.ref 0), some (.int 4), some (.int a2), some (.int a3), some (.int a4), none, none, none, none]) rfl (Nat.le_of_ble_eq_true rfl) rfl ?_
    refine E_iload_n rfl rfl ?_
    have e2 : Ev ab_Z0 1 47 [.int a3] w0 (some (.int 1), w0) := by
      refine Ef.in (md := mX4_isWish) (L := [some (.int a3)]) rfl (Nat.le_of_ble_eq_true rfl) rfl ?_
      refine E_iload_n rfl rfl ?_
      refine E_if (t := 14) (b := false) rfl rfl ((cn_lt (rfl : (a3).toInt = (a3).toInt) (by decide : (0 : Int32).toInt = 0)).trans (decide_eq_false (by omega))) ?_
      refine E_iload_n rfl rfl ?_
      refine E_bipush (x := 8) rfl (by decide) ?_
      refine E_ic (t := 14) (b := false) rfl rfl ((cn_ge (rfl : (a3).toInt = (a3).toInt) (by decide : (8 : Int32).toInt = 8)).trans (decide_eq_false (by omega))) ?_
      refine E_iconst (x := 1) rfl (by decide) ?_
      refine E_goto (t := 15) rfl rfl ?_
      exact E_iret rfl rfl
    refine E_callS (v := some (.int 1)) (As := [.int a3]) (r0 := []) (cs2 := w0) rfl rfl rfl (Nat.le_of_ble_eq_true rfl) rfl e2 (by decide) rfl ?_
    refine E_if (t := 31) (b := false) rfl rfl (by decide) ?_
    refine E_aload_n rfl rfl ?_
    refine E_iload_n rfl rfl ?_
    refine E_iload_n rfl rfl ?_
    refine E_bipush (x := 40) rfl (by decide) ?_
    refine E_iload rfl rfl ?_
    have e19 : Ev ab_Z0 1 116 [.int a4] w0 (some (.int 0), w0) := by
      refine Ef.in (md := mX5_isOneOfTwo) (L := [some (.int a4)]) rfl (Nat.le_of_ble_eq_true rfl) rfl ?_
      refine E_iload_n rfl rfl ?_
      refine E_if (t := 9) (b := false) rfl rfl ((cn_eq (rfl : (a4).toInt = (a4).toInt) (by decide : (0 : Int32).toInt = 0)).trans (decide_eq_false (by omega))) ?_
      refine E_iload_n rfl rfl ?_
      refine E_iconst (x := 1) rfl (by decide) ?_
      refine E_ic (t := 13) (b := true) rfl rfl ((cn_ne (rfl : (a4).toInt = (a4).toInt) (by decide : (1 : Int32).toInt = 1)).trans (decide_eq_true (by omega))) ?_
      refine E_iconst (x := 0) rfl (by decide) ?_
      exact E_iret rfl rfl
    refine E_callS (v := some (.int 0)) (As := [.int a4]) (r0 := [.int 40, .int a2, .int 4, .ref 0]) (cs2 := w0) rfl rfl rfl (Nat.le_of_ble_eq_true rfl) rfl e19 (by decide) rfl ?_
    refine E_if (t := 24) (b := false) rfl rfl (by decide) ?_
    refine E_iconst (x := 1) rfl (by decide) ?_
    refine E_goto (t := 25) rfl rfl ?_
    have e32 : Ev ab_Z0 3 120 [.ref 0, .int 4, .int a2, .int 40, .int 1] w0 (some (.int 3), w0) := by
      refine Ef.in (md := mX5_whyNoTwos) (L := [some (.ref 0), some (.int 4), some (.int a2), some (.int 40), some (.int 1), none]) rfl (Nat.le_of_ble_eq_true rfl) rfl ?_
      refine E_aload_n rfl rfl ?_
      refine E_iload_n rfl rfl ?_
      refine E_callV (v := some (.int 3)) (As := [.ref 0, .int 4]) (r0 := []) (cs2 := w0) rfl rfl rfl (Nat.le_of_ble_eq_true rfl) rfl rfl c48_X5_whyNoRow (by decide) rfl ?_
      refine E_istore (L2 := [some (.ref 0), some (.int 4), some (.int a2), some (.int 40), some (.int 1), some (.int 3)]) rfl rfl ?_
      refine E_iload rfl rfl ?_
      refine E_if (t := 15) (b := false) rfl rfl (by decide) ?_
      refine E_iload rfl rfl ?_
      exact E_iret rfl rfl
    refine E_callV (v := some (.int 3)) (As := [.ref 0, .int 4, .int a2, .int 40, .int 1]) (r0 := []) (cs2 := w0) rfl rfl rfl (Nat.le_of_ble_eq_true rfl) rfl rfl e32 (by decide) rfl ?_
    refine E_goto (t := 32) rfl rfl ?_
    refine E_istore (L2 := [some (.ref 0), some (.int 4), some (.int a2), some (.int a3), some (.int a4), some (.int 3), none, none, none]) rfl rfl ?_
    refine E_iload rfl rfl ?_
    refine E_if (t := 56) (b := true) rfl rfl (by decide) ?_
    refine E_iload rfl rfl ?_
    refine E_if (t := 71) (b := false) rfl rfl (by decide) ?_
    refine E_aload_n rfl rfl ?_
    refine E_iload rfl rfl ?_
    refine E_callV (v := some (.int (-3))) (As := [.ref 0, .int 3]) (r0 := []) (cs2 := (w0.set 48 (.inl [0, 0, 0, 1, 0, 0, 0, 0]))) rfl rfl rfl (Nat.le_of_ble_eq_true rfl) rfl rfl c32_X5_refuse (by decide) (by simp only [List.length_set]) ?_
    refine E_bipush (x := 10) rfl (by decide) ?_
    refine E_isub (z := (-13)) rfl (by decide) ?_
    exact E_iret rfl rfl, by
    refine Ef.in (md := mX6_costs) (L := [some (.ref 65), some (.int 4), some (.int a2), some (.int a3), some (.int a4), none, none, none, none, none, none, none]) rfl (Nat.le_of_ble_eq_true rfl) rfl ?_
    refine E_aload_n rfl rfl ?_
    refine E_iload_n rfl rfl ?_
    refine E_iconst (x := 0) rfl (by decide) ?_
    refine E_bipush (x := 7) rfl (by decide) ?_
    have e5 : Ev ab_Z0 1 134 [.ref 65, .int a3, .int 0, .int 7] (w0.set 48 (.inl [0, 0, 0, 1, 0, 0, 0, 0])) (some (.int 1), (w0.set 48 (.inl [0, 0, 0, 1, 0, 0, 0, 0]))) := by
      refine Ef.in (md := mX6_isFrom) (L := [some (.ref 65), some (.int a3), some (.int 0), some (.int 7)]) rfl (Nat.le_of_ble_eq_true rfl) rfl ?_
      refine E_iload_n rfl rfl ?_
      refine E_iload_n rfl rfl ?_
      refine E_ic (t := 14) (b := false) rfl rfl ((cn_lt (rfl : (a3).toInt = (a3).toInt) (by decide : (0 : Int32).toInt = 0)).trans (decide_eq_false (by omega))) ?_
      refine E_iload_n rfl rfl ?_
      refine E_iload_n rfl rfl ?_
      refine E_ic (t := 14) (b := false) rfl rfl ((cn_gt (rfl : (a3).toInt = (a3).toInt) (by decide : (7 : Int32).toInt = 7)).trans (decide_eq_false (by omega))) ?_
      refine E_iconst (x := 1) rfl (by decide) ?_
      refine E_goto (t := 15) rfl rfl ?_
      exact E_iret rfl rfl
    refine E_callV (v := some (.int 1)) (As := [.ref 65, .int a3, .int 0, .int 7]) (r0 := []) (cs2 := (w0.set 48 (.inl [0, 0, 0, 1, 0, 0, 0, 0]))) rfl rfl rfl (Nat.le_of_ble_eq_true rfl) rfl rfl e5 (by decide) rfl ?_
    refine E_if (t := 15) (b := true) rfl rfl (by decide) ?_
    refine E_aload_n rfl rfl ?_
    refine E_iload_n rfl rfl ?_
    refine E_iload_n rfl rfl ?_
    refine E_bipush (x := 40) rfl (by decide) ?_
    refine E_iload rfl rfl ?_
    refine E_if (t := 31) (b := false) rfl rfl ((cn_eq (rfl : (a4).toInt = (a4).toInt) (by decide : (0 : Int32).toInt = 0)).trans (decide_eq_false (by omega))) ?_
    refine E_iload rfl rfl ?_
    refine E_iconst (x := 1) rfl (by decide) ?_
    refine E_ic (t := 35) (b := true) rfl rfl ((cn_ne (rfl : (a4).toInt = (a4).toInt) (by decide : (1 : Int32).toInt = 1)).trans (decide_eq_true (by omega))) ?_
    refine E_iconst (x := 0) rfl (by decide) ?_
    have e28 : Ev ab_Z0 3 186 [.ref 65, .int 4, .int a2, .int 40, .int 0] (w0.set 48 (.inl [0, 0, 0, 1, 0, 0, 0, 0])) (some (.int (-3)), (w0.set 48 (.inl [0, 0, 0, 1, 0, 0, 0, 0]))) := by
      refine Ef.in (md := mX6_barsOf) (L := [some (.ref 65), some (.int 4), some (.int a2), some (.int 40), some (.int 0), none]) rfl (Nat.le_of_ble_eq_true rfl) rfl ?_
      refine E_aload_n rfl rfl ?_
      refine E_iload_n rfl rfl ?_
      refine E_callV (v := some (.int (-3))) (As := [.ref 65, .int 4]) (r0 := []) (cs2 := (w0.set 48 (.inl [0, 0, 0, 1, 0, 0, 0, 0]))) rfl rfl rfl (Nat.le_of_ble_eq_true rfl) rfl rfl c217_X6_wanted (by decide) rfl ?_
      refine E_istore (L2 := [some (.ref 65), some (.int 4), some (.int a2), some (.int 40), some (.int 0), some (.int (-3))]) rfl rfl ?_
      refine E_iload rfl rfl ?_
      refine E_if (t := 17) (b := false) rfl rfl (by decide) ?_
      refine E_iload rfl rfl ?_
      refine E_goto (t := 59) rfl rfl ?_
      exact E_iret rfl rfl
    refine E_callV (v := some (.int (-3))) (As := [.ref 65, .int 4, .int a2, .int 40, .int 0]) (r0 := []) (cs2 := (w0.set 48 (.inl [0, 0, 0, 1, 0, 0, 0, 0]))) rfl rfl rfl (Nat.le_of_ble_eq_true rfl) rfl rfl e28 (by decide) rfl ?_
    refine E_istore (L2 := [some (.ref 65), some (.int 4), some (.int a2), some (.int a3), some (.int a4), some (.int (-3)), none, none, none, none, none, none]) rfl rfl ?_
    refine E_iconst (x := 0) rfl (by decide) ?_
    refine E_istore (L2 := [some (.ref 65), some (.int 4), some (.int a2), some (.int a3), some (.int a4), some (.int (-3)), some (.int 0), none, none, none, none, none]) rfl rfl ?_
    refine E_iload rfl rfl ?_
    refine E_iload_n rfl rfl ?_
    refine E_ic (t := 80) (b := true) rfl rfl ((cn_ge (by decide : (0 : Int32).toInt = 0) (rfl : (a2).toInt = (a2).toInt)).trans (decide_eq_true (by omega))) ?_
    refine E_iload rfl rfl ?_
    refine E_if (t := 92) (b := false) rfl rfl (by decide) ?_
    refine E_aload_n rfl rfl ?_
    refine E_iload rfl rfl ?_
    refine E_callV (v := some (.int (-13))) (As := [.ref 65, .int (-3)]) (r0 := []) (cs2 := ((w0.set 48 (.inl [0, 0, 0, 1, 0, 0, 0, 0])).set 66 (.inl [0, 0, 0, 1, 0, 0, 0, 0]))) rfl rfl rfl (Nat.le_of_ble_eq_true rfl) rfl rfl c258_X6_noTen (by decide) (by simp only [List.length_set]) ?_
    exact E_iret rfl rfl, (by simp only [List.length_set]; rfl), (by simp only [List.length_set]; rfl), ((ab_szs rfl).trans ((ab_szs rfl).trans rfl)), fun _ => rfl⟩
theorem f_costs_74 (a2 a3 a4 : Int32) (ha2l : (1 : Int) ≤ a2.toInt) (ha3l : (0 : Int) ≤ a3.toInt) (ha3h : a3.toInt ≤ 7) (ha4l : (2 : Int) ≤ a4.toInt) : p1_P 6 100 4 188 [.ref 0, .int 4, .int a2, .int a3, .int a4] [.ref 65, .int 4, .int a2, .int a3, .int a4] :=
  ⟨(-13), (w0.set 48 (.inl [0, 0, 0, 1, 0, 0, 0, 0])), ((w0.set 48 (.inl [0, 0, 0, 1, 0, 0, 0, 0])).set 66 (.inl [0, 0, 0, 1, 0, 0, 0, 0])), by
    refine Ef.in (md := mX5_costs) (L := [some (.ref 0), some (.int 4), some (.int a2), some (.int a3), some (.int a4), none, none, none, none]) rfl (Nat.le_of_ble_eq_true rfl) rfl ?_
    refine E_iload_n rfl rfl ?_
    have e2 : Ev ab_Z0 1 47 [.int a3] w0 (some (.int 1), w0) := by
      refine Ef.in (md := mX4_isWish) (L := [some (.int a3)]) rfl (Nat.le_of_ble_eq_true rfl) rfl ?_
      refine E_iload_n rfl rfl ?_
      refine E_if (t := 14) (b := false) rfl rfl ((cn_lt (rfl : (a3).toInt = (a3).toInt) (by decide : (0 : Int32).toInt = 0)).trans (decide_eq_false (by omega))) ?_
      refine E_iload_n rfl rfl ?_
      refine E_bipush (x := 8) rfl (by decide) ?_
      refine E_ic (t := 14) (b := false) rfl rfl ((cn_ge (rfl : (a3).toInt = (a3).toInt) (by decide : (8 : Int32).toInt = 8)).trans (decide_eq_false (by omega))) ?_
      refine E_iconst (x := 1) rfl (by decide) ?_
      refine E_goto (t := 15) rfl rfl ?_
      exact E_iret rfl rfl
    refine E_callS (v := some (.int 1)) (As := [.int a3]) (r0 := []) (cs2 := w0) rfl rfl rfl (Nat.le_of_ble_eq_true rfl) rfl e2 (by decide) rfl ?_
    refine E_if (t := 31) (b := false) rfl rfl (by decide) ?_
    refine E_aload_n rfl rfl ?_
    refine E_iload_n rfl rfl ?_
    refine E_iload_n rfl rfl ?_
    refine E_bipush (x := 40) rfl (by decide) ?_
    refine E_iload rfl rfl ?_
    have e19 : Ev ab_Z0 1 116 [.int a4] w0 (some (.int 0), w0) := by
      refine Ef.in (md := mX5_isOneOfTwo) (L := [some (.int a4)]) rfl (Nat.le_of_ble_eq_true rfl) rfl ?_
      refine E_iload_n rfl rfl ?_
      refine E_if (t := 9) (b := false) rfl rfl ((cn_eq (rfl : (a4).toInt = (a4).toInt) (by decide : (0 : Int32).toInt = 0)).trans (decide_eq_false (by omega))) ?_
      refine E_iload_n rfl rfl ?_
      refine E_iconst (x := 1) rfl (by decide) ?_
      refine E_ic (t := 13) (b := true) rfl rfl ((cn_ne (rfl : (a4).toInt = (a4).toInt) (by decide : (1 : Int32).toInt = 1)).trans (decide_eq_true (by omega))) ?_
      refine E_iconst (x := 0) rfl (by decide) ?_
      exact E_iret rfl rfl
    refine E_callS (v := some (.int 0)) (As := [.int a4]) (r0 := [.int 40, .int a2, .int 4, .ref 0]) (cs2 := w0) rfl rfl rfl (Nat.le_of_ble_eq_true rfl) rfl e19 (by decide) rfl ?_
    refine E_if (t := 24) (b := false) rfl rfl (by decide) ?_
    refine E_iconst (x := 1) rfl (by decide) ?_
    refine E_goto (t := 25) rfl rfl ?_
    have e32 : Ev ab_Z0 3 120 [.ref 0, .int 4, .int a2, .int 40, .int 1] w0 (some (.int 3), w0) := by
      refine Ef.in (md := mX5_whyNoTwos) (L := [some (.ref 0), some (.int 4), some (.int a2), some (.int 40), some (.int 1), none]) rfl (Nat.le_of_ble_eq_true rfl) rfl ?_
      refine E_aload_n rfl rfl ?_
      refine E_iload_n rfl rfl ?_
      refine E_callV (v := some (.int 3)) (As := [.ref 0, .int 4]) (r0 := []) (cs2 := w0) rfl rfl rfl (Nat.le_of_ble_eq_true rfl) rfl rfl c48_X5_whyNoRow (by decide) rfl ?_
      refine E_istore (L2 := [some (.ref 0), some (.int 4), some (.int a2), some (.int 40), some (.int 1), some (.int 3)]) rfl rfl ?_
      refine E_iload rfl rfl ?_
      refine E_if (t := 15) (b := false) rfl rfl (by decide) ?_
      refine E_iload rfl rfl ?_
      exact E_iret rfl rfl
    refine E_callV (v := some (.int 3)) (As := [.ref 0, .int 4, .int a2, .int 40, .int 1]) (r0 := []) (cs2 := w0) rfl rfl rfl (Nat.le_of_ble_eq_true rfl) rfl rfl e32 (by decide) rfl ?_
    refine E_goto (t := 32) rfl rfl ?_
    refine E_istore (L2 := [some (.ref 0), some (.int 4), some (.int a2), some (.int a3), some (.int a4), some (.int 3), none, none, none]) rfl rfl ?_
    refine E_iload rfl rfl ?_
    refine E_if (t := 56) (b := true) rfl rfl (by decide) ?_
    refine E_iload rfl rfl ?_
    refine E_if (t := 71) (b := false) rfl rfl (by decide) ?_
    refine E_aload_n rfl rfl ?_
    refine E_iload rfl rfl ?_
    refine E_callV (v := some (.int (-3))) (As := [.ref 0, .int 3]) (r0 := []) (cs2 := (w0.set 48 (.inl [0, 0, 0, 1, 0, 0, 0, 0]))) rfl rfl rfl (Nat.le_of_ble_eq_true rfl) rfl rfl c32_X5_refuse (by decide) (by simp only [List.length_set]) ?_
    refine E_bipush (x := 10) rfl (by decide) ?_
    refine E_isub (z := (-13)) rfl (by decide) ?_
    exact E_iret rfl rfl, by
    refine Ef.in (md := mX6_costs) (L := [some (.ref 65), some (.int 4), some (.int a2), some (.int a3), some (.int a4), none, none, none, none, none, none, none]) rfl (Nat.le_of_ble_eq_true rfl) rfl ?_
    refine E_aload_n rfl rfl ?_
    refine E_iload_n rfl rfl ?_
    refine E_iconst (x := 0) rfl (by decide) ?_
    refine E_bipush (x := 7) rfl (by decide) ?_
    have e5 : Ev ab_Z0 1 134 [.ref 65, .int a3, .int 0, .int 7] (w0.set 48 (.inl [0, 0, 0, 1, 0, 0, 0, 0])) (some (.int 1), (w0.set 48 (.inl [0, 0, 0, 1, 0, 0, 0, 0]))) := by
      refine Ef.in (md := mX6_isFrom) (L := [some (.ref 65), some (.int a3), some (.int 0), some (.int 7)]) rfl (Nat.le_of_ble_eq_true rfl) rfl ?_
      refine E_iload_n rfl rfl ?_
      refine E_iload_n rfl rfl ?_
      refine E_ic (t := 14) (b := false) rfl rfl ((cn_lt (rfl : (a3).toInt = (a3).toInt) (by decide : (0 : Int32).toInt = 0)).trans (decide_eq_false (by omega))) ?_
      refine E_iload_n rfl rfl ?_
      refine E_iload_n rfl rfl ?_
      refine E_ic (t := 14) (b := false) rfl rfl ((cn_gt (rfl : (a3).toInt = (a3).toInt) (by decide : (7 : Int32).toInt = 7)).trans (decide_eq_false (by omega))) ?_
      refine E_iconst (x := 1) rfl (by decide) ?_
      refine E_goto (t := 15) rfl rfl ?_
      exact E_iret rfl rfl
    refine E_callV (v := some (.int 1)) (As := [.ref 65, .int a3, .int 0, .int 7]) (r0 := []) (cs2 := (w0.set 48 (.inl [0, 0, 0, 1, 0, 0, 0, 0]))) rfl rfl rfl (Nat.le_of_ble_eq_true rfl) rfl rfl e5 (by decide) rfl ?_
    refine E_if (t := 15) (b := true) rfl rfl (by decide) ?_
    refine E_aload_n rfl rfl ?_
    refine E_iload_n rfl rfl ?_
    refine E_iload_n rfl rfl ?_
    refine E_bipush (x := 40) rfl (by decide) ?_
    refine E_iload rfl rfl ?_
    refine E_if (t := 31) (b := false) rfl rfl ((cn_eq (rfl : (a4).toInt = (a4).toInt) (by decide : (0 : Int32).toInt = 0)).trans (decide_eq_false (by omega))) ?_
    refine E_iload rfl rfl ?_
    refine E_iconst (x := 1) rfl (by decide) ?_
    refine E_ic (t := 35) (b := true) rfl rfl ((cn_ne (rfl : (a4).toInt = (a4).toInt) (by decide : (1 : Int32).toInt = 1)).trans (decide_eq_true (by omega))) ?_
    refine E_iconst (x := 0) rfl (by decide) ?_
    have e28 : Ev ab_Z0 3 186 [.ref 65, .int 4, .int a2, .int 40, .int 0] (w0.set 48 (.inl [0, 0, 0, 1, 0, 0, 0, 0])) (some (.int (-3)), (w0.set 48 (.inl [0, 0, 0, 1, 0, 0, 0, 0]))) := by
      refine Ef.in (md := mX6_barsOf) (L := [some (.ref 65), some (.int 4), some (.int a2), some (.int 40), some (.int 0), none]) rfl (Nat.le_of_ble_eq_true rfl) rfl ?_
      refine E_aload_n rfl rfl ?_
      refine E_iload_n rfl rfl ?_
      refine E_callV (v := some (.int (-3))) (As := [.ref 65, .int 4]) (r0 := []) (cs2 := (w0.set 48 (.inl [0, 0, 0, 1, 0, 0, 0, 0]))) rfl rfl rfl (Nat.le_of_ble_eq_true rfl) rfl rfl c217_X6_wanted (by decide) rfl ?_
      refine E_istore (L2 := [some (.ref 65), some (.int 4), some (.int a2), some (.int 40), some (.int 0), some (.int (-3))]) rfl rfl ?_
      refine E_iload rfl rfl ?_
      refine E_if (t := 17) (b := false) rfl rfl (by decide) ?_
      refine E_iload rfl rfl ?_
      refine E_goto (t := 59) rfl rfl ?_
      exact E_iret rfl rfl
    refine E_callV (v := some (.int (-3))) (As := [.ref 65, .int 4, .int a2, .int 40, .int 0]) (r0 := []) (cs2 := (w0.set 48 (.inl [0, 0, 0, 1, 0, 0, 0, 0]))) rfl rfl rfl (Nat.le_of_ble_eq_true rfl) rfl rfl e28 (by decide) rfl ?_
    refine E_istore (L2 := [some (.ref 65), some (.int 4), some (.int a2), some (.int a3), some (.int a4), some (.int (-3)), none, none, none, none, none, none]) rfl rfl ?_
    refine E_iconst (x := 0) rfl (by decide) ?_
    refine E_istore (L2 := [some (.ref 65), some (.int 4), some (.int a2), some (.int a3), some (.int a4), some (.int (-3)), some (.int 0), none, none, none, none, none]) rfl rfl ?_
    refine E_iload rfl rfl ?_
    refine E_iload_n rfl rfl ?_
    refine E_ic (t := 80) (b := false) rfl rfl ((cn_ge (by decide : (0 : Int32).toInt = 0) (rfl : (a2).toInt = (a2).toInt)).trans (decide_eq_false (by omega))) ?_
    refine E_iload rfl rfl ?_
    refine E_if (t := 80) (b := true) rfl rfl (by decide) ?_
    refine E_iload rfl rfl ?_
    refine E_if (t := 92) (b := false) rfl rfl (by decide) ?_
    refine E_aload_n rfl rfl ?_
    refine E_iload rfl rfl ?_
    refine E_callV (v := some (.int (-13))) (As := [.ref 65, .int (-3)]) (r0 := []) (cs2 := ((w0.set 48 (.inl [0, 0, 0, 1, 0, 0, 0, 0])).set 66 (.inl [0, 0, 0, 1, 0, 0, 0, 0]))) rfl rfl rfl (Nat.le_of_ble_eq_true rfl) rfl rfl c258_X6_noTen (by decide) (by simp only [List.length_set]) ?_
    exact E_iret rfl rfl, (by simp only [List.length_set]; rfl), (by simp only [List.length_set]; rfl), ((ab_szs rfl).trans ((ab_szs rfl).trans rfl)), fun _ => rfl⟩
theorem f_costs_75 (a2 a3 a4 : Int32) (ha2h : a2.toInt ≤ 0) (ha3l : (0 : Int) ≤ a3.toInt) (ha3h : a3.toInt ≤ 7) (ha4l : (2 : Int) ≤ a4.toInt) : p1_P 6 100 4 188 [.ref 0, .int 5, .int a2, .int a3, .int a4] [.ref 65, .int 5, .int a2, .int a3, .int a4] :=
  ⟨(-13), (w0.set 48 (.inl [0, 0, 0, 1, 0, 0, 0, 0])), ((w0.set 48 (.inl [0, 0, 0, 1, 0, 0, 0, 0])).set 66 (.inl [0, 0, 0, 1, 0, 0, 0, 0])), by
    refine Ef.in (md := mX5_costs) (L := [some (.ref 0), some (.int 5), some (.int a2), some (.int a3), some (.int a4), none, none, none, none]) rfl (Nat.le_of_ble_eq_true rfl) rfl ?_
    refine E_iload_n rfl rfl ?_
    have e2 : Ev ab_Z0 1 47 [.int a3] w0 (some (.int 1), w0) := by
      refine Ef.in (md := mX4_isWish) (L := [some (.int a3)]) rfl (Nat.le_of_ble_eq_true rfl) rfl ?_
      refine E_iload_n rfl rfl ?_
      refine E_if (t := 14) (b := false) rfl rfl ((cn_lt (rfl : (a3).toInt = (a3).toInt) (by decide : (0 : Int32).toInt = 0)).trans (decide_eq_false (by omega))) ?_
      refine E_iload_n rfl rfl ?_
      refine E_bipush (x := 8) rfl (by decide) ?_
      refine E_ic (t := 14) (b := false) rfl rfl ((cn_ge (rfl : (a3).toInt = (a3).toInt) (by decide : (8 : Int32).toInt = 8)).trans (decide_eq_false (by omega))) ?_
      refine E_iconst (x := 1) rfl (by decide) ?_
      refine E_goto (t := 15) rfl rfl ?_
      exact E_iret rfl rfl
    refine E_callS (v := some (.int 1)) (As := [.int a3]) (r0 := []) (cs2 := w0) rfl rfl rfl (Nat.le_of_ble_eq_true rfl) rfl e2 (by decide) rfl ?_
    refine E_if (t := 31) (b := false) rfl rfl (by decide) ?_
    refine E_aload_n rfl rfl ?_
    refine E_iload_n rfl rfl ?_
    refine E_iload_n rfl rfl ?_
    refine E_bipush (x := 40) rfl (by decide) ?_
    refine E_iload rfl rfl ?_
    have e19 : Ev ab_Z0 1 116 [.int a4] w0 (some (.int 0), w0) := by
      refine Ef.in (md := mX5_isOneOfTwo) (L := [some (.int a4)]) rfl (Nat.le_of_ble_eq_true rfl) rfl ?_
      refine E_iload_n rfl rfl ?_
      refine E_if (t := 9) (b := false) rfl rfl ((cn_eq (rfl : (a4).toInt = (a4).toInt) (by decide : (0 : Int32).toInt = 0)).trans (decide_eq_false (by omega))) ?_
      refine E_iload_n rfl rfl ?_
      refine E_iconst (x := 1) rfl (by decide) ?_
      refine E_ic (t := 13) (b := true) rfl rfl ((cn_ne (rfl : (a4).toInt = (a4).toInt) (by decide : (1 : Int32).toInt = 1)).trans (decide_eq_true (by omega))) ?_
      refine E_iconst (x := 0) rfl (by decide) ?_
      exact E_iret rfl rfl
    refine E_callS (v := some (.int 0)) (As := [.int a4]) (r0 := [.int 40, .int a2, .int 5, .ref 0]) (cs2 := w0) rfl rfl rfl (Nat.le_of_ble_eq_true rfl) rfl e19 (by decide) rfl ?_
    refine E_if (t := 24) (b := false) rfl rfl (by decide) ?_
    refine E_iconst (x := 1) rfl (by decide) ?_
    refine E_goto (t := 25) rfl rfl ?_
    have e32 : Ev ab_Z0 3 120 [.ref 0, .int 5, .int a2, .int 40, .int 1] w0 (some (.int 3), w0) := by
      refine Ef.in (md := mX5_whyNoTwos) (L := [some (.ref 0), some (.int 5), some (.int a2), some (.int 40), some (.int 1), none]) rfl (Nat.le_of_ble_eq_true rfl) rfl ?_
      refine E_aload_n rfl rfl ?_
      refine E_iload_n rfl rfl ?_
      refine E_callV (v := some (.int 3)) (As := [.ref 0, .int 5]) (r0 := []) (cs2 := w0) rfl rfl rfl (Nat.le_of_ble_eq_true rfl) rfl rfl c52_X5_whyNoRow (by decide) rfl ?_
      refine E_istore (L2 := [some (.ref 0), some (.int 5), some (.int a2), some (.int 40), some (.int 1), some (.int 3)]) rfl rfl ?_
      refine E_iload rfl rfl ?_
      refine E_if (t := 15) (b := false) rfl rfl (by decide) ?_
      refine E_iload rfl rfl ?_
      exact E_iret rfl rfl
    refine E_callV (v := some (.int 3)) (As := [.ref 0, .int 5, .int a2, .int 40, .int 1]) (r0 := []) (cs2 := w0) rfl rfl rfl (Nat.le_of_ble_eq_true rfl) rfl rfl e32 (by decide) rfl ?_
    refine E_goto (t := 32) rfl rfl ?_
    refine E_istore (L2 := [some (.ref 0), some (.int 5), some (.int a2), some (.int a3), some (.int a4), some (.int 3), none, none, none]) rfl rfl ?_
    refine E_iload rfl rfl ?_
    refine E_if (t := 56) (b := true) rfl rfl (by decide) ?_
    refine E_iload rfl rfl ?_
    refine E_if (t := 71) (b := false) rfl rfl (by decide) ?_
    refine E_aload_n rfl rfl ?_
    refine E_iload rfl rfl ?_
    refine E_callV (v := some (.int (-3))) (As := [.ref 0, .int 3]) (r0 := []) (cs2 := (w0.set 48 (.inl [0, 0, 0, 1, 0, 0, 0, 0]))) rfl rfl rfl (Nat.le_of_ble_eq_true rfl) rfl rfl c32_X5_refuse (by decide) (by simp only [List.length_set]) ?_
    refine E_bipush (x := 10) rfl (by decide) ?_
    refine E_isub (z := (-13)) rfl (by decide) ?_
    exact E_iret rfl rfl, by
    refine Ef.in (md := mX6_costs) (L := [some (.ref 65), some (.int 5), some (.int a2), some (.int a3), some (.int a4), none, none, none, none, none, none, none]) rfl (Nat.le_of_ble_eq_true rfl) rfl ?_
    refine E_aload_n rfl rfl ?_
    refine E_iload_n rfl rfl ?_
    refine E_iconst (x := 0) rfl (by decide) ?_
    refine E_bipush (x := 7) rfl (by decide) ?_
    have e5 : Ev ab_Z0 1 134 [.ref 65, .int a3, .int 0, .int 7] (w0.set 48 (.inl [0, 0, 0, 1, 0, 0, 0, 0])) (some (.int 1), (w0.set 48 (.inl [0, 0, 0, 1, 0, 0, 0, 0]))) := by
      refine Ef.in (md := mX6_isFrom) (L := [some (.ref 65), some (.int a3), some (.int 0), some (.int 7)]) rfl (Nat.le_of_ble_eq_true rfl) rfl ?_
      refine E_iload_n rfl rfl ?_
      refine E_iload_n rfl rfl ?_
      refine E_ic (t := 14) (b := false) rfl rfl ((cn_lt (rfl : (a3).toInt = (a3).toInt) (by decide : (0 : Int32).toInt = 0)).trans (decide_eq_false (by omega))) ?_
      refine E_iload_n rfl rfl ?_
      refine E_iload_n rfl rfl ?_
      refine E_ic (t := 14) (b := false) rfl rfl ((cn_gt (rfl : (a3).toInt = (a3).toInt) (by decide : (7 : Int32).toInt = 7)).trans (decide_eq_false (by omega))) ?_
      refine E_iconst (x := 1) rfl (by decide) ?_
      refine E_goto (t := 15) rfl rfl ?_
      exact E_iret rfl rfl
    refine E_callV (v := some (.int 1)) (As := [.ref 65, .int a3, .int 0, .int 7]) (r0 := []) (cs2 := (w0.set 48 (.inl [0, 0, 0, 1, 0, 0, 0, 0]))) rfl rfl rfl (Nat.le_of_ble_eq_true rfl) rfl rfl e5 (by decide) rfl ?_
    refine E_if (t := 15) (b := true) rfl rfl (by decide) ?_
    refine E_aload_n rfl rfl ?_
    refine E_iload_n rfl rfl ?_
    refine E_iload_n rfl rfl ?_
    refine E_bipush (x := 40) rfl (by decide) ?_
    refine E_iload rfl rfl ?_
    refine E_if (t := 31) (b := false) rfl rfl ((cn_eq (rfl : (a4).toInt = (a4).toInt) (by decide : (0 : Int32).toInt = 0)).trans (decide_eq_false (by omega))) ?_
    refine E_iload rfl rfl ?_
    refine E_iconst (x := 1) rfl (by decide) ?_
    refine E_ic (t := 35) (b := true) rfl rfl ((cn_ne (rfl : (a4).toInt = (a4).toInt) (by decide : (1 : Int32).toInt = 1)).trans (decide_eq_true (by omega))) ?_
    refine E_iconst (x := 0) rfl (by decide) ?_
    have e28 : Ev ab_Z0 3 186 [.ref 65, .int 5, .int a2, .int 40, .int 0] (w0.set 48 (.inl [0, 0, 0, 1, 0, 0, 0, 0])) (some (.int (-3)), (w0.set 48 (.inl [0, 0, 0, 1, 0, 0, 0, 0]))) := by
      refine Ef.in (md := mX6_barsOf) (L := [some (.ref 65), some (.int 5), some (.int a2), some (.int 40), some (.int 0), none]) rfl (Nat.le_of_ble_eq_true rfl) rfl ?_
      refine E_aload_n rfl rfl ?_
      refine E_iload_n rfl rfl ?_
      refine E_callV (v := some (.int (-3))) (As := [.ref 65, .int 5]) (r0 := []) (cs2 := (w0.set 48 (.inl [0, 0, 0, 1, 0, 0, 0, 0]))) rfl rfl rfl (Nat.le_of_ble_eq_true rfl) rfl rfl c220_X6_wanted (by decide) rfl ?_
      refine E_istore (L2 := [some (.ref 65), some (.int 5), some (.int a2), some (.int 40), some (.int 0), some (.int (-3))]) rfl rfl ?_
      refine E_iload rfl rfl ?_
      refine E_if (t := 17) (b := false) rfl rfl (by decide) ?_
      refine E_iload rfl rfl ?_
      refine E_goto (t := 59) rfl rfl ?_
      exact E_iret rfl rfl
    refine E_callV (v := some (.int (-3))) (As := [.ref 65, .int 5, .int a2, .int 40, .int 0]) (r0 := []) (cs2 := (w0.set 48 (.inl [0, 0, 0, 1, 0, 0, 0, 0]))) rfl rfl rfl (Nat.le_of_ble_eq_true rfl) rfl rfl e28 (by decide) rfl ?_
    refine E_istore (L2 := [some (.ref 65), some (.int 5), some (.int a2), some (.int a3), some (.int a4), some (.int (-3)), none, none, none, none, none, none]) rfl rfl ?_
    refine E_iconst (x := 0) rfl (by decide) ?_
    refine E_istore (L2 := [some (.ref 65), some (.int 5), some (.int a2), some (.int a3), some (.int a4), some (.int (-3)), some (.int 0), none, none, none, none, none]) rfl rfl ?_
    refine E_iload rfl rfl ?_
    refine E_iload_n rfl rfl ?_
    refine E_ic (t := 80) (b := true) rfl rfl ((cn_ge (by decide : (0 : Int32).toInt = 0) (rfl : (a2).toInt = (a2).toInt)).trans (decide_eq_true (by omega))) ?_
    refine E_iload rfl rfl ?_
    refine E_if (t := 92) (b := false) rfl rfl (by decide) ?_
    refine E_aload_n rfl rfl ?_
    refine E_iload rfl rfl ?_
    refine E_callV (v := some (.int (-13))) (As := [.ref 65, .int (-3)]) (r0 := []) (cs2 := ((w0.set 48 (.inl [0, 0, 0, 1, 0, 0, 0, 0])).set 66 (.inl [0, 0, 0, 1, 0, 0, 0, 0]))) rfl rfl rfl (Nat.le_of_ble_eq_true rfl) rfl rfl c258_X6_noTen (by decide) (by simp only [List.length_set]) ?_
    exact E_iret rfl rfl, (by simp only [List.length_set]; rfl), (by simp only [List.length_set]; rfl), ((ab_szs rfl).trans ((ab_szs rfl).trans rfl)), fun _ => rfl⟩
theorem f_costs_76 (a2 a3 a4 : Int32) (ha2l : (1 : Int) ≤ a2.toInt) (ha3l : (0 : Int) ≤ a3.toInt) (ha3h : a3.toInt ≤ 7) (ha4l : (2 : Int) ≤ a4.toInt) : p1_P 6 100 4 188 [.ref 0, .int 5, .int a2, .int a3, .int a4] [.ref 65, .int 5, .int a2, .int a3, .int a4] :=
  ⟨(-13), (w0.set 48 (.inl [0, 0, 0, 1, 0, 0, 0, 0])), ((w0.set 48 (.inl [0, 0, 0, 1, 0, 0, 0, 0])).set 66 (.inl [0, 0, 0, 1, 0, 0, 0, 0])), by
    refine Ef.in (md := mX5_costs) (L := [some (.ref 0), some (.int 5), some (.int a2), some (.int a3), some (.int a4), none, none, none, none]) rfl (Nat.le_of_ble_eq_true rfl) rfl ?_
    refine E_iload_n rfl rfl ?_
    have e2 : Ev ab_Z0 1 47 [.int a3] w0 (some (.int 1), w0) := by
      refine Ef.in (md := mX4_isWish) (L := [some (.int a3)]) rfl (Nat.le_of_ble_eq_true rfl) rfl ?_
      refine E_iload_n rfl rfl ?_
      refine E_if (t := 14) (b := false) rfl rfl ((cn_lt (rfl : (a3).toInt = (a3).toInt) (by decide : (0 : Int32).toInt = 0)).trans (decide_eq_false (by omega))) ?_
      refine E_iload_n rfl rfl ?_
      refine E_bipush (x := 8) rfl (by decide) ?_
      refine E_ic (t := 14) (b := false) rfl rfl ((cn_ge (rfl : (a3).toInt = (a3).toInt) (by decide : (8 : Int32).toInt = 8)).trans (decide_eq_false (by omega))) ?_
      refine E_iconst (x := 1) rfl (by decide) ?_
      refine E_goto (t := 15) rfl rfl ?_
      exact E_iret rfl rfl
    refine E_callS (v := some (.int 1)) (As := [.int a3]) (r0 := []) (cs2 := w0) rfl rfl rfl (Nat.le_of_ble_eq_true rfl) rfl e2 (by decide) rfl ?_
    refine E_if (t := 31) (b := false) rfl rfl (by decide) ?_
    refine E_aload_n rfl rfl ?_
    refine E_iload_n rfl rfl ?_
    refine E_iload_n rfl rfl ?_
    refine E_bipush (x := 40) rfl (by decide) ?_
    refine E_iload rfl rfl ?_
    have e19 : Ev ab_Z0 1 116 [.int a4] w0 (some (.int 0), w0) := by
      refine Ef.in (md := mX5_isOneOfTwo) (L := [some (.int a4)]) rfl (Nat.le_of_ble_eq_true rfl) rfl ?_
      refine E_iload_n rfl rfl ?_
      refine E_if (t := 9) (b := false) rfl rfl ((cn_eq (rfl : (a4).toInt = (a4).toInt) (by decide : (0 : Int32).toInt = 0)).trans (decide_eq_false (by omega))) ?_
      refine E_iload_n rfl rfl ?_
      refine E_iconst (x := 1) rfl (by decide) ?_
      refine E_ic (t := 13) (b := true) rfl rfl ((cn_ne (rfl : (a4).toInt = (a4).toInt) (by decide : (1 : Int32).toInt = 1)).trans (decide_eq_true (by omega))) ?_
      refine E_iconst (x := 0) rfl (by decide) ?_
      exact E_iret rfl rfl
    refine E_callS (v := some (.int 0)) (As := [.int a4]) (r0 := [.int 40, .int a2, .int 5, .ref 0]) (cs2 := w0) rfl rfl rfl (Nat.le_of_ble_eq_true rfl) rfl e19 (by decide) rfl ?_
    refine E_if (t := 24) (b := false) rfl rfl (by decide) ?_
    refine E_iconst (x := 1) rfl (by decide) ?_
    refine E_goto (t := 25) rfl rfl ?_
    have e32 : Ev ab_Z0 3 120 [.ref 0, .int 5, .int a2, .int 40, .int 1] w0 (some (.int 3), w0) := by
      refine Ef.in (md := mX5_whyNoTwos) (L := [some (.ref 0), some (.int 5), some (.int a2), some (.int 40), some (.int 1), none]) rfl (Nat.le_of_ble_eq_true rfl) rfl ?_
      refine E_aload_n rfl rfl ?_
      refine E_iload_n rfl rfl ?_
      refine E_callV (v := some (.int 3)) (As := [.ref 0, .int 5]) (r0 := []) (cs2 := w0) rfl rfl rfl (Nat.le_of_ble_eq_true rfl) rfl rfl c52_X5_whyNoRow (by decide) rfl ?_
      refine E_istore (L2 := [some (.ref 0), some (.int 5), some (.int a2), some (.int 40), some (.int 1), some (.int 3)]) rfl rfl ?_
      refine E_iload rfl rfl ?_
      refine E_if (t := 15) (b := false) rfl rfl (by decide) ?_
      refine E_iload rfl rfl ?_
      exact E_iret rfl rfl
    refine E_callV (v := some (.int 3)) (As := [.ref 0, .int 5, .int a2, .int 40, .int 1]) (r0 := []) (cs2 := w0) rfl rfl rfl (Nat.le_of_ble_eq_true rfl) rfl rfl e32 (by decide) rfl ?_
    refine E_goto (t := 32) rfl rfl ?_
    refine E_istore (L2 := [some (.ref 0), some (.int 5), some (.int a2), some (.int a3), some (.int a4), some (.int 3), none, none, none]) rfl rfl ?_
    refine E_iload rfl rfl ?_
    refine E_if (t := 56) (b := true) rfl rfl (by decide) ?_
    refine E_iload rfl rfl ?_
    refine E_if (t := 71) (b := false) rfl rfl (by decide) ?_
    refine E_aload_n rfl rfl ?_
    refine E_iload rfl rfl ?_
    refine E_callV (v := some (.int (-3))) (As := [.ref 0, .int 3]) (r0 := []) (cs2 := (w0.set 48 (.inl [0, 0, 0, 1, 0, 0, 0, 0]))) rfl rfl rfl (Nat.le_of_ble_eq_true rfl) rfl rfl c32_X5_refuse (by decide) (by simp only [List.length_set]) ?_
    refine E_bipush (x := 10) rfl (by decide) ?_
    refine E_isub (z := (-13)) rfl (by decide) ?_
    exact E_iret rfl rfl, by
    refine Ef.in (md := mX6_costs) (L := [some (.ref 65), some (.int 5), some (.int a2), some (.int a3), some (.int a4), none, none, none, none, none, none, none]) rfl (Nat.le_of_ble_eq_true rfl) rfl ?_
    refine E_aload_n rfl rfl ?_
    refine E_iload_n rfl rfl ?_
    refine E_iconst (x := 0) rfl (by decide) ?_
    refine E_bipush (x := 7) rfl (by decide) ?_
    have e5 : Ev ab_Z0 1 134 [.ref 65, .int a3, .int 0, .int 7] (w0.set 48 (.inl [0, 0, 0, 1, 0, 0, 0, 0])) (some (.int 1), (w0.set 48 (.inl [0, 0, 0, 1, 0, 0, 0, 0]))) := by
      refine Ef.in (md := mX6_isFrom) (L := [some (.ref 65), some (.int a3), some (.int 0), some (.int 7)]) rfl (Nat.le_of_ble_eq_true rfl) rfl ?_
      refine E_iload_n rfl rfl ?_
      refine E_iload_n rfl rfl ?_
      refine E_ic (t := 14) (b := false) rfl rfl ((cn_lt (rfl : (a3).toInt = (a3).toInt) (by decide : (0 : Int32).toInt = 0)).trans (decide_eq_false (by omega))) ?_
      refine E_iload_n rfl rfl ?_
      refine E_iload_n rfl rfl ?_
      refine E_ic (t := 14) (b := false) rfl rfl ((cn_gt (rfl : (a3).toInt = (a3).toInt) (by decide : (7 : Int32).toInt = 7)).trans (decide_eq_false (by omega))) ?_
      refine E_iconst (x := 1) rfl (by decide) ?_
      refine E_goto (t := 15) rfl rfl ?_
      exact E_iret rfl rfl
    refine E_callV (v := some (.int 1)) (As := [.ref 65, .int a3, .int 0, .int 7]) (r0 := []) (cs2 := (w0.set 48 (.inl [0, 0, 0, 1, 0, 0, 0, 0]))) rfl rfl rfl (Nat.le_of_ble_eq_true rfl) rfl rfl e5 (by decide) rfl ?_
    refine E_if (t := 15) (b := true) rfl rfl (by decide) ?_
    refine E_aload_n rfl rfl ?_
    refine E_iload_n rfl rfl ?_
    refine E_iload_n rfl rfl ?_
    refine E_bipush (x := 40) rfl (by decide) ?_
    refine E_iload rfl rfl ?_
    refine E_if (t := 31) (b := false) rfl rfl ((cn_eq (rfl : (a4).toInt = (a4).toInt) (by decide : (0 : Int32).toInt = 0)).trans (decide_eq_false (by omega))) ?_
    refine E_iload rfl rfl ?_
    refine E_iconst (x := 1) rfl (by decide) ?_
    refine E_ic (t := 35) (b := true) rfl rfl ((cn_ne (rfl : (a4).toInt = (a4).toInt) (by decide : (1 : Int32).toInt = 1)).trans (decide_eq_true (by omega))) ?_
    refine E_iconst (x := 0) rfl (by decide) ?_
    have e28 : Ev ab_Z0 3 186 [.ref 65, .int 5, .int a2, .int 40, .int 0] (w0.set 48 (.inl [0, 0, 0, 1, 0, 0, 0, 0])) (some (.int (-3)), (w0.set 48 (.inl [0, 0, 0, 1, 0, 0, 0, 0]))) := by
      refine Ef.in (md := mX6_barsOf) (L := [some (.ref 65), some (.int 5), some (.int a2), some (.int 40), some (.int 0), none]) rfl (Nat.le_of_ble_eq_true rfl) rfl ?_
      refine E_aload_n rfl rfl ?_
      refine E_iload_n rfl rfl ?_
      refine E_callV (v := some (.int (-3))) (As := [.ref 65, .int 5]) (r0 := []) (cs2 := (w0.set 48 (.inl [0, 0, 0, 1, 0, 0, 0, 0]))) rfl rfl rfl (Nat.le_of_ble_eq_true rfl) rfl rfl c220_X6_wanted (by decide) rfl ?_
      refine E_istore (L2 := [some (.ref 65), some (.int 5), some (.int a2), some (.int 40), some (.int 0), some (.int (-3))]) rfl rfl ?_
      refine E_iload rfl rfl ?_
      refine E_if (t := 17) (b := false) rfl rfl (by decide) ?_
      refine E_iload rfl rfl ?_
      refine E_goto (t := 59) rfl rfl ?_
      exact E_iret rfl rfl
    refine E_callV (v := some (.int (-3))) (As := [.ref 65, .int 5, .int a2, .int 40, .int 0]) (r0 := []) (cs2 := (w0.set 48 (.inl [0, 0, 0, 1, 0, 0, 0, 0]))) rfl rfl rfl (Nat.le_of_ble_eq_true rfl) rfl rfl e28 (by decide) rfl ?_
    refine E_istore (L2 := [some (.ref 65), some (.int 5), some (.int a2), some (.int a3), some (.int a4), some (.int (-3)), none, none, none, none, none, none]) rfl rfl ?_
    refine E_iconst (x := 0) rfl (by decide) ?_
    refine E_istore (L2 := [some (.ref 65), some (.int 5), some (.int a2), some (.int a3), some (.int a4), some (.int (-3)), some (.int 0), none, none, none, none, none]) rfl rfl ?_
    refine E_iload rfl rfl ?_
    refine E_iload_n rfl rfl ?_
    refine E_ic (t := 80) (b := false) rfl rfl ((cn_ge (by decide : (0 : Int32).toInt = 0) (rfl : (a2).toInt = (a2).toInt)).trans (decide_eq_false (by omega))) ?_
    refine E_iload rfl rfl ?_
    refine E_if (t := 80) (b := true) rfl rfl (by decide) ?_
    refine E_iload rfl rfl ?_
    refine E_if (t := 92) (b := false) rfl rfl (by decide) ?_
    refine E_aload_n rfl rfl ?_
    refine E_iload rfl rfl ?_
    refine E_callV (v := some (.int (-13))) (As := [.ref 65, .int (-3)]) (r0 := []) (cs2 := ((w0.set 48 (.inl [0, 0, 0, 1, 0, 0, 0, 0])).set 66 (.inl [0, 0, 0, 1, 0, 0, 0, 0]))) rfl rfl rfl (Nat.le_of_ble_eq_true rfl) rfl rfl c258_X6_noTen (by decide) (by simp only [List.length_set]) ?_
    exact E_iret rfl rfl, (by simp only [List.length_set]; rfl), (by simp only [List.length_set]; rfl), ((ab_szs rfl).trans ((ab_szs rfl).trans rfl)), fun _ => rfl⟩
theorem f_costs_77 (a2 a3 a4 : Int32) (ha2h : a2.toInt ≤ 0) (ha3l : (0 : Int) ≤ a3.toInt) (ha3h : a3.toInt ≤ 7) (ha4l : (2 : Int) ≤ a4.toInt) : p1_P 6 100 4 188 [.ref 0, .int 6, .int a2, .int a3, .int a4] [.ref 65, .int 6, .int a2, .int a3, .int a4] :=
  ⟨(-13), (w0.set 48 (.inl [0, 0, 0, 1, 0, 0, 0, 0])), ((w0.set 48 (.inl [0, 0, 0, 1, 0, 0, 0, 0])).set 66 (.inl [0, 0, 0, 1, 0, 0, 0, 0])), by
    refine Ef.in (md := mX5_costs) (L := [some (.ref 0), some (.int 6), some (.int a2), some (.int a3), some (.int a4), none, none, none, none]) rfl (Nat.le_of_ble_eq_true rfl) rfl ?_
    refine E_iload_n rfl rfl ?_
    have e2 : Ev ab_Z0 1 47 [.int a3] w0 (some (.int 1), w0) := by
      refine Ef.in (md := mX4_isWish) (L := [some (.int a3)]) rfl (Nat.le_of_ble_eq_true rfl) rfl ?_
      refine E_iload_n rfl rfl ?_
      refine E_if (t := 14) (b := false) rfl rfl ((cn_lt (rfl : (a3).toInt = (a3).toInt) (by decide : (0 : Int32).toInt = 0)).trans (decide_eq_false (by omega))) ?_
      refine E_iload_n rfl rfl ?_
      refine E_bipush (x := 8) rfl (by decide) ?_
      refine E_ic (t := 14) (b := false) rfl rfl ((cn_ge (rfl : (a3).toInt = (a3).toInt) (by decide : (8 : Int32).toInt = 8)).trans (decide_eq_false (by omega))) ?_
      refine E_iconst (x := 1) rfl (by decide) ?_
      refine E_goto (t := 15) rfl rfl ?_
      exact E_iret rfl rfl
    refine E_callS (v := some (.int 1)) (As := [.int a3]) (r0 := []) (cs2 := w0) rfl rfl rfl (Nat.le_of_ble_eq_true rfl) rfl e2 (by decide) rfl ?_
    refine E_if (t := 31) (b := false) rfl rfl (by decide) ?_
    refine E_aload_n rfl rfl ?_
    refine E_iload_n rfl rfl ?_
    refine E_iload_n rfl rfl ?_
    refine E_bipush (x := 40) rfl (by decide) ?_
    refine E_iload rfl rfl ?_
    have e19 : Ev ab_Z0 1 116 [.int a4] w0 (some (.int 0), w0) := by
      refine Ef.in (md := mX5_isOneOfTwo) (L := [some (.int a4)]) rfl (Nat.le_of_ble_eq_true rfl) rfl ?_
      refine E_iload_n rfl rfl ?_
      refine E_if (t := 9) (b := false) rfl rfl ((cn_eq (rfl : (a4).toInt = (a4).toInt) (by decide : (0 : Int32).toInt = 0)).trans (decide_eq_false (by omega))) ?_
      refine E_iload_n rfl rfl ?_
      refine E_iconst (x := 1) rfl (by decide) ?_
      refine E_ic (t := 13) (b := true) rfl rfl ((cn_ne (rfl : (a4).toInt = (a4).toInt) (by decide : (1 : Int32).toInt = 1)).trans (decide_eq_true (by omega))) ?_
      refine E_iconst (x := 0) rfl (by decide) ?_
      exact E_iret rfl rfl
    refine E_callS (v := some (.int 0)) (As := [.int a4]) (r0 := [.int 40, .int a2, .int 6, .ref 0]) (cs2 := w0) rfl rfl rfl (Nat.le_of_ble_eq_true rfl) rfl e19 (by decide) rfl ?_
    refine E_if (t := 24) (b := false) rfl rfl (by decide) ?_
    refine E_iconst (x := 1) rfl (by decide) ?_
    refine E_goto (t := 25) rfl rfl ?_
    have e32 : Ev ab_Z0 3 120 [.ref 0, .int 6, .int a2, .int 40, .int 1] w0 (some (.int 3), w0) := by
      refine Ef.in (md := mX5_whyNoTwos) (L := [some (.ref 0), some (.int 6), some (.int a2), some (.int 40), some (.int 1), none]) rfl (Nat.le_of_ble_eq_true rfl) rfl ?_
      refine E_aload_n rfl rfl ?_
      refine E_iload_n rfl rfl ?_
      refine E_callV (v := some (.int 3)) (As := [.ref 0, .int 6]) (r0 := []) (cs2 := w0) rfl rfl rfl (Nat.le_of_ble_eq_true rfl) rfl rfl c56_X5_whyNoRow (by decide) rfl ?_
      refine E_istore (L2 := [some (.ref 0), some (.int 6), some (.int a2), some (.int 40), some (.int 1), some (.int 3)]) rfl rfl ?_
      refine E_iload rfl rfl ?_
      refine E_if (t := 15) (b := false) rfl rfl (by decide) ?_
      refine E_iload rfl rfl ?_
      exact E_iret rfl rfl
    refine E_callV (v := some (.int 3)) (As := [.ref 0, .int 6, .int a2, .int 40, .int 1]) (r0 := []) (cs2 := w0) rfl rfl rfl (Nat.le_of_ble_eq_true rfl) rfl rfl e32 (by decide) rfl ?_
    refine E_goto (t := 32) rfl rfl ?_
    refine E_istore (L2 := [some (.ref 0), some (.int 6), some (.int a2), some (.int a3), some (.int a4), some (.int 3), none, none, none]) rfl rfl ?_
    refine E_iload rfl rfl ?_
    refine E_if (t := 56) (b := true) rfl rfl (by decide) ?_
    refine E_iload rfl rfl ?_
    refine E_if (t := 71) (b := false) rfl rfl (by decide) ?_
    refine E_aload_n rfl rfl ?_
    refine E_iload rfl rfl ?_
    refine E_callV (v := some (.int (-3))) (As := [.ref 0, .int 3]) (r0 := []) (cs2 := (w0.set 48 (.inl [0, 0, 0, 1, 0, 0, 0, 0]))) rfl rfl rfl (Nat.le_of_ble_eq_true rfl) rfl rfl c32_X5_refuse (by decide) (by simp only [List.length_set]) ?_
    refine E_bipush (x := 10) rfl (by decide) ?_
    refine E_isub (z := (-13)) rfl (by decide) ?_
    exact E_iret rfl rfl, by
    refine Ef.in (md := mX6_costs) (L := [some (.ref 65), some (.int 6), some (.int a2), some (.int a3), some (.int a4), none, none, none, none, none, none, none]) rfl (Nat.le_of_ble_eq_true rfl) rfl ?_
    refine E_aload_n rfl rfl ?_
    refine E_iload_n rfl rfl ?_
    refine E_iconst (x := 0) rfl (by decide) ?_
    refine E_bipush (x := 7) rfl (by decide) ?_
    have e5 : Ev ab_Z0 1 134 [.ref 65, .int a3, .int 0, .int 7] (w0.set 48 (.inl [0, 0, 0, 1, 0, 0, 0, 0])) (some (.int 1), (w0.set 48 (.inl [0, 0, 0, 1, 0, 0, 0, 0]))) := by
      refine Ef.in (md := mX6_isFrom) (L := [some (.ref 65), some (.int a3), some (.int 0), some (.int 7)]) rfl (Nat.le_of_ble_eq_true rfl) rfl ?_
      refine E_iload_n rfl rfl ?_
      refine E_iload_n rfl rfl ?_
      refine E_ic (t := 14) (b := false) rfl rfl ((cn_lt (rfl : (a3).toInt = (a3).toInt) (by decide : (0 : Int32).toInt = 0)).trans (decide_eq_false (by omega))) ?_
      refine E_iload_n rfl rfl ?_
      refine E_iload_n rfl rfl ?_
      refine E_ic (t := 14) (b := false) rfl rfl ((cn_gt (rfl : (a3).toInt = (a3).toInt) (by decide : (7 : Int32).toInt = 7)).trans (decide_eq_false (by omega))) ?_
      refine E_iconst (x := 1) rfl (by decide) ?_
      refine E_goto (t := 15) rfl rfl ?_
      exact E_iret rfl rfl
    refine E_callV (v := some (.int 1)) (As := [.ref 65, .int a3, .int 0, .int 7]) (r0 := []) (cs2 := (w0.set 48 (.inl [0, 0, 0, 1, 0, 0, 0, 0]))) rfl rfl rfl (Nat.le_of_ble_eq_true rfl) rfl rfl e5 (by decide) rfl ?_
    refine E_if (t := 15) (b := true) rfl rfl (by decide) ?_
    refine E_aload_n rfl rfl ?_
    refine E_iload_n rfl rfl ?_
    refine E_iload_n rfl rfl ?_
    refine E_bipush (x := 40) rfl (by decide) ?_
    refine E_iload rfl rfl ?_
    refine E_if (t := 31) (b := false) rfl rfl ((cn_eq (rfl : (a4).toInt = (a4).toInt) (by decide : (0 : Int32).toInt = 0)).trans (decide_eq_false (by omega))) ?_
    refine E_iload rfl rfl ?_
    refine E_iconst (x := 1) rfl (by decide) ?_
    refine E_ic (t := 35) (b := true) rfl rfl ((cn_ne (rfl : (a4).toInt = (a4).toInt) (by decide : (1 : Int32).toInt = 1)).trans (decide_eq_true (by omega))) ?_
    refine E_iconst (x := 0) rfl (by decide) ?_
    have e28 : Ev ab_Z0 3 186 [.ref 65, .int 6, .int a2, .int 40, .int 0] (w0.set 48 (.inl [0, 0, 0, 1, 0, 0, 0, 0])) (some (.int (-3)), (w0.set 48 (.inl [0, 0, 0, 1, 0, 0, 0, 0]))) := by
      refine Ef.in (md := mX6_barsOf) (L := [some (.ref 65), some (.int 6), some (.int a2), some (.int 40), some (.int 0), none]) rfl (Nat.le_of_ble_eq_true rfl) rfl ?_
      refine E_aload_n rfl rfl ?_
      refine E_iload_n rfl rfl ?_
      refine E_callV (v := some (.int (-3))) (As := [.ref 65, .int 6]) (r0 := []) (cs2 := (w0.set 48 (.inl [0, 0, 0, 1, 0, 0, 0, 0]))) rfl rfl rfl (Nat.le_of_ble_eq_true rfl) rfl rfl c223_X6_wanted (by decide) rfl ?_
      refine E_istore (L2 := [some (.ref 65), some (.int 6), some (.int a2), some (.int 40), some (.int 0), some (.int (-3))]) rfl rfl ?_
      refine E_iload rfl rfl ?_
      refine E_if (t := 17) (b := false) rfl rfl (by decide) ?_
      refine E_iload rfl rfl ?_
      refine E_goto (t := 59) rfl rfl ?_
      exact E_iret rfl rfl
    refine E_callV (v := some (.int (-3))) (As := [.ref 65, .int 6, .int a2, .int 40, .int 0]) (r0 := []) (cs2 := (w0.set 48 (.inl [0, 0, 0, 1, 0, 0, 0, 0]))) rfl rfl rfl (Nat.le_of_ble_eq_true rfl) rfl rfl e28 (by decide) rfl ?_
    refine E_istore (L2 := [some (.ref 65), some (.int 6), some (.int a2), some (.int a3), some (.int a4), some (.int (-3)), none, none, none, none, none, none]) rfl rfl ?_
    refine E_iconst (x := 0) rfl (by decide) ?_
    refine E_istore (L2 := [some (.ref 65), some (.int 6), some (.int a2), some (.int a3), some (.int a4), some (.int (-3)), some (.int 0), none, none, none, none, none]) rfl rfl ?_
    refine E_iload rfl rfl ?_
    refine E_iload_n rfl rfl ?_
    refine E_ic (t := 80) (b := true) rfl rfl ((cn_ge (by decide : (0 : Int32).toInt = 0) (rfl : (a2).toInt = (a2).toInt)).trans (decide_eq_true (by omega))) ?_
    refine E_iload rfl rfl ?_
    refine E_if (t := 92) (b := false) rfl rfl (by decide) ?_
    refine E_aload_n rfl rfl ?_
    refine E_iload rfl rfl ?_
    refine E_callV (v := some (.int (-13))) (As := [.ref 65, .int (-3)]) (r0 := []) (cs2 := ((w0.set 48 (.inl [0, 0, 0, 1, 0, 0, 0, 0])).set 66 (.inl [0, 0, 0, 1, 0, 0, 0, 0]))) rfl rfl rfl (Nat.le_of_ble_eq_true rfl) rfl rfl c258_X6_noTen (by decide) (by simp only [List.length_set]) ?_
    exact E_iret rfl rfl, (by simp only [List.length_set]; rfl), (by simp only [List.length_set]; rfl), ((ab_szs rfl).trans ((ab_szs rfl).trans rfl)), fun _ => rfl⟩
theorem f_costs_78 (a2 a3 a4 : Int32) (ha2l : (1 : Int) ≤ a2.toInt) (ha3l : (0 : Int) ≤ a3.toInt) (ha3h : a3.toInt ≤ 7) (ha4l : (2 : Int) ≤ a4.toInt) : p1_P 6 100 4 188 [.ref 0, .int 6, .int a2, .int a3, .int a4] [.ref 65, .int 6, .int a2, .int a3, .int a4] :=
  ⟨(-13), (w0.set 48 (.inl [0, 0, 0, 1, 0, 0, 0, 0])), ((w0.set 48 (.inl [0, 0, 0, 1, 0, 0, 0, 0])).set 66 (.inl [0, 0, 0, 1, 0, 0, 0, 0])), by
    refine Ef.in (md := mX5_costs) (L := [some (.ref 0), some (.int 6), some (.int a2), some (.int a3), some (.int a4), none, none, none, none]) rfl (Nat.le_of_ble_eq_true rfl) rfl ?_
    refine E_iload_n rfl rfl ?_
    have e2 : Ev ab_Z0 1 47 [.int a3] w0 (some (.int 1), w0) := by
      refine Ef.in (md := mX4_isWish) (L := [some (.int a3)]) rfl (Nat.le_of_ble_eq_true rfl) rfl ?_
      refine E_iload_n rfl rfl ?_
      refine E_if (t := 14) (b := false) rfl rfl ((cn_lt (rfl : (a3).toInt = (a3).toInt) (by decide : (0 : Int32).toInt = 0)).trans (decide_eq_false (by omega))) ?_
      refine E_iload_n rfl rfl ?_
      refine E_bipush (x := 8) rfl (by decide) ?_
      refine E_ic (t := 14) (b := false) rfl rfl ((cn_ge (rfl : (a3).toInt = (a3).toInt) (by decide : (8 : Int32).toInt = 8)).trans (decide_eq_false (by omega))) ?_
      refine E_iconst (x := 1) rfl (by decide) ?_
      refine E_goto (t := 15) rfl rfl ?_
      exact E_iret rfl rfl
    refine E_callS (v := some (.int 1)) (As := [.int a3]) (r0 := []) (cs2 := w0) rfl rfl rfl (Nat.le_of_ble_eq_true rfl) rfl e2 (by decide) rfl ?_
    refine E_if (t := 31) (b := false) rfl rfl (by decide) ?_
    refine E_aload_n rfl rfl ?_
    refine E_iload_n rfl rfl ?_
    refine E_iload_n rfl rfl ?_
    refine E_bipush (x := 40) rfl (by decide) ?_
    refine E_iload rfl rfl ?_
    have e19 : Ev ab_Z0 1 116 [.int a4] w0 (some (.int 0), w0) := by
      refine Ef.in (md := mX5_isOneOfTwo) (L := [some (.int a4)]) rfl (Nat.le_of_ble_eq_true rfl) rfl ?_
      refine E_iload_n rfl rfl ?_
      refine E_if (t := 9) (b := false) rfl rfl ((cn_eq (rfl : (a4).toInt = (a4).toInt) (by decide : (0 : Int32).toInt = 0)).trans (decide_eq_false (by omega))) ?_
      refine E_iload_n rfl rfl ?_
      refine E_iconst (x := 1) rfl (by decide) ?_
      refine E_ic (t := 13) (b := true) rfl rfl ((cn_ne (rfl : (a4).toInt = (a4).toInt) (by decide : (1 : Int32).toInt = 1)).trans (decide_eq_true (by omega))) ?_
      refine E_iconst (x := 0) rfl (by decide) ?_
      exact E_iret rfl rfl
    refine E_callS (v := some (.int 0)) (As := [.int a4]) (r0 := [.int 40, .int a2, .int 6, .ref 0]) (cs2 := w0) rfl rfl rfl (Nat.le_of_ble_eq_true rfl) rfl e19 (by decide) rfl ?_
    refine E_if (t := 24) (b := false) rfl rfl (by decide) ?_
    refine E_iconst (x := 1) rfl (by decide) ?_
    refine E_goto (t := 25) rfl rfl ?_
    have e32 : Ev ab_Z0 3 120 [.ref 0, .int 6, .int a2, .int 40, .int 1] w0 (some (.int 3), w0) := by
      refine Ef.in (md := mX5_whyNoTwos) (L := [some (.ref 0), some (.int 6), some (.int a2), some (.int 40), some (.int 1), none]) rfl (Nat.le_of_ble_eq_true rfl) rfl ?_
      refine E_aload_n rfl rfl ?_
      refine E_iload_n rfl rfl ?_
      refine E_callV (v := some (.int 3)) (As := [.ref 0, .int 6]) (r0 := []) (cs2 := w0) rfl rfl rfl (Nat.le_of_ble_eq_true rfl) rfl rfl c56_X5_whyNoRow (by decide) rfl ?_
      refine E_istore (L2 := [some (.ref 0), some (.int 6), some (.int a2), some (.int 40), some (.int 1), some (.int 3)]) rfl rfl ?_
      refine E_iload rfl rfl ?_
      refine E_if (t := 15) (b := false) rfl rfl (by decide) ?_
      refine E_iload rfl rfl ?_
      exact E_iret rfl rfl
    refine E_callV (v := some (.int 3)) (As := [.ref 0, .int 6, .int a2, .int 40, .int 1]) (r0 := []) (cs2 := w0) rfl rfl rfl (Nat.le_of_ble_eq_true rfl) rfl rfl e32 (by decide) rfl ?_
    refine E_goto (t := 32) rfl rfl ?_
    refine E_istore (L2 := [some (.ref 0), some (.int 6), some (.int a2), some (.int a3), some (.int a4), some (.int 3), none, none, none]) rfl rfl ?_
    refine E_iload rfl rfl ?_
    refine E_if (t := 56) (b := true) rfl rfl (by decide) ?_
    refine E_iload rfl rfl ?_
    refine E_if (t := 71) (b := false) rfl rfl (by decide) ?_
    refine E_aload_n rfl rfl ?_
    refine E_iload rfl rfl ?_
    refine E_callV (v := some (.int (-3))) (As := [.ref 0, .int 3]) (r0 := []) (cs2 := (w0.set 48 (.inl [0, 0, 0, 1, 0, 0, 0, 0]))) rfl rfl rfl (Nat.le_of_ble_eq_true rfl) rfl rfl c32_X5_refuse (by decide) (by simp only [List.length_set]) ?_
    refine E_bipush (x := 10) rfl (by decide) ?_
    refine E_isub (z := (-13)) rfl (by decide) ?_
    exact E_iret rfl rfl, by
    refine Ef.in (md := mX6_costs) (L := [some (.ref 65), some (.int 6), some (.int a2), some (.int a3), some (.int a4), none, none, none, none, none, none, none]) rfl (Nat.le_of_ble_eq_true rfl) rfl ?_
    refine E_aload_n rfl rfl ?_
    refine E_iload_n rfl rfl ?_
    refine E_iconst (x := 0) rfl (by decide) ?_
    refine E_bipush (x := 7) rfl (by decide) ?_
    have e5 : Ev ab_Z0 1 134 [.ref 65, .int a3, .int 0, .int 7] (w0.set 48 (.inl [0, 0, 0, 1, 0, 0, 0, 0])) (some (.int 1), (w0.set 48 (.inl [0, 0, 0, 1, 0, 0, 0, 0]))) := by
      refine Ef.in (md := mX6_isFrom) (L := [some (.ref 65), some (.int a3), some (.int 0), some (.int 7)]) rfl (Nat.le_of_ble_eq_true rfl) rfl ?_
      refine E_iload_n rfl rfl ?_
      refine E_iload_n rfl rfl ?_
      refine E_ic (t := 14) (b := false) rfl rfl ((cn_lt (rfl : (a3).toInt = (a3).toInt) (by decide : (0 : Int32).toInt = 0)).trans (decide_eq_false (by omega))) ?_
      refine E_iload_n rfl rfl ?_
      refine E_iload_n rfl rfl ?_
      refine E_ic (t := 14) (b := false) rfl rfl ((cn_gt (rfl : (a3).toInt = (a3).toInt) (by decide : (7 : Int32).toInt = 7)).trans (decide_eq_false (by omega))) ?_
      refine E_iconst (x := 1) rfl (by decide) ?_
      refine E_goto (t := 15) rfl rfl ?_
      exact E_iret rfl rfl
    refine E_callV (v := some (.int 1)) (As := [.ref 65, .int a3, .int 0, .int 7]) (r0 := []) (cs2 := (w0.set 48 (.inl [0, 0, 0, 1, 0, 0, 0, 0]))) rfl rfl rfl (Nat.le_of_ble_eq_true rfl) rfl rfl e5 (by decide) rfl ?_
    refine E_if (t := 15) (b := true) rfl rfl (by decide) ?_
    refine E_aload_n rfl rfl ?_
    refine E_iload_n rfl rfl ?_
    refine E_iload_n rfl rfl ?_
    refine E_bipush (x := 40) rfl (by decide) ?_
    refine E_iload rfl rfl ?_
    refine E_if (t := 31) (b := false) rfl rfl ((cn_eq (rfl : (a4).toInt = (a4).toInt) (by decide : (0 : Int32).toInt = 0)).trans (decide_eq_false (by omega))) ?_
    refine E_iload rfl rfl ?_
    refine E_iconst (x := 1) rfl (by decide) ?_
    refine E_ic (t := 35) (b := true) rfl rfl ((cn_ne (rfl : (a4).toInt = (a4).toInt) (by decide : (1 : Int32).toInt = 1)).trans (decide_eq_true (by omega))) ?_
    refine E_iconst (x := 0) rfl (by decide) ?_
    have e28 : Ev ab_Z0 3 186 [.ref 65, .int 6, .int a2, .int 40, .int 0] (w0.set 48 (.inl [0, 0, 0, 1, 0, 0, 0, 0])) (some (.int (-3)), (w0.set 48 (.inl [0, 0, 0, 1, 0, 0, 0, 0]))) := by
      refine Ef.in (md := mX6_barsOf) (L := [some (.ref 65), some (.int 6), some (.int a2), some (.int 40), some (.int 0), none]) rfl (Nat.le_of_ble_eq_true rfl) rfl ?_
      refine E_aload_n rfl rfl ?_
      refine E_iload_n rfl rfl ?_
      refine E_callV (v := some (.int (-3))) (As := [.ref 65, .int 6]) (r0 := []) (cs2 := (w0.set 48 (.inl [0, 0, 0, 1, 0, 0, 0, 0]))) rfl rfl rfl (Nat.le_of_ble_eq_true rfl) rfl rfl c223_X6_wanted (by decide) rfl ?_
      refine E_istore (L2 := [some (.ref 65), some (.int 6), some (.int a2), some (.int 40), some (.int 0), some (.int (-3))]) rfl rfl ?_
      refine E_iload rfl rfl ?_
      refine E_if (t := 17) (b := false) rfl rfl (by decide) ?_
      refine E_iload rfl rfl ?_
      refine E_goto (t := 59) rfl rfl ?_
      exact E_iret rfl rfl
    refine E_callV (v := some (.int (-3))) (As := [.ref 65, .int 6, .int a2, .int 40, .int 0]) (r0 := []) (cs2 := (w0.set 48 (.inl [0, 0, 0, 1, 0, 0, 0, 0]))) rfl rfl rfl (Nat.le_of_ble_eq_true rfl) rfl rfl e28 (by decide) rfl ?_
    refine E_istore (L2 := [some (.ref 65), some (.int 6), some (.int a2), some (.int a3), some (.int a4), some (.int (-3)), none, none, none, none, none, none]) rfl rfl ?_
    refine E_iconst (x := 0) rfl (by decide) ?_
    refine E_istore (L2 := [some (.ref 65), some (.int 6), some (.int a2), some (.int a3), some (.int a4), some (.int (-3)), some (.int 0), none, none, none, none, none]) rfl rfl ?_
    refine E_iload rfl rfl ?_
    refine E_iload_n rfl rfl ?_
    refine E_ic (t := 80) (b := false) rfl rfl ((cn_ge (by decide : (0 : Int32).toInt = 0) (rfl : (a2).toInt = (a2).toInt)).trans (decide_eq_false (by omega))) ?_
    refine E_iload rfl rfl ?_
    refine E_if (t := 80) (b := true) rfl rfl (by decide) ?_
    refine E_iload rfl rfl ?_
    refine E_if (t := 92) (b := false) rfl rfl (by decide) ?_
    refine E_aload_n rfl rfl ?_
    refine E_iload rfl rfl ?_
    refine E_callV (v := some (.int (-13))) (As := [.ref 65, .int (-3)]) (r0 := []) (cs2 := ((w0.set 48 (.inl [0, 0, 0, 1, 0, 0, 0, 0])).set 66 (.inl [0, 0, 0, 1, 0, 0, 0, 0]))) rfl rfl rfl (Nat.le_of_ble_eq_true rfl) rfl rfl c258_X6_noTen (by decide) (by simp only [List.length_set]) ?_
    exact E_iret rfl rfl, (by simp only [List.length_set]; rfl), (by simp only [List.length_set]; rfl), ((ab_szs rfl).trans ((ab_szs rfl).trans rfl)), fun _ => rfl⟩
theorem f_costs_79 (a2 a3 a4 : Int32) (ha2h : a2.toInt ≤ 0) (ha3l : (0 : Int) ≤ a3.toInt) (ha3h : a3.toInt ≤ 7) (ha4l : (2 : Int) ≤ a4.toInt) : p1_P 6 100 4 188 [.ref 0, .int 7, .int a2, .int a3, .int a4] [.ref 65, .int 7, .int a2, .int a3, .int a4] :=
  ⟨(-13), (w0.set 48 (.inl [0, 0, 0, 1, 0, 0, 0, 0])), ((w0.set 48 (.inl [0, 0, 0, 1, 0, 0, 0, 0])).set 66 (.inl [0, 0, 0, 1, 0, 0, 0, 0])), by
    refine Ef.in (md := mX5_costs) (L := [some (.ref 0), some (.int 7), some (.int a2), some (.int a3), some (.int a4), none, none, none, none]) rfl (Nat.le_of_ble_eq_true rfl) rfl ?_
    refine E_iload_n rfl rfl ?_
    have e2 : Ev ab_Z0 1 47 [.int a3] w0 (some (.int 1), w0) := by
      refine Ef.in (md := mX4_isWish) (L := [some (.int a3)]) rfl (Nat.le_of_ble_eq_true rfl) rfl ?_
      refine E_iload_n rfl rfl ?_
      refine E_if (t := 14) (b := false) rfl rfl ((cn_lt (rfl : (a3).toInt = (a3).toInt) (by decide : (0 : Int32).toInt = 0)).trans (decide_eq_false (by omega))) ?_
      refine E_iload_n rfl rfl ?_
      refine E_bipush (x := 8) rfl (by decide) ?_
      refine E_ic (t := 14) (b := false) rfl rfl ((cn_ge (rfl : (a3).toInt = (a3).toInt) (by decide : (8 : Int32).toInt = 8)).trans (decide_eq_false (by omega))) ?_
      refine E_iconst (x := 1) rfl (by decide) ?_
      refine E_goto (t := 15) rfl rfl ?_
      exact E_iret rfl rfl
    refine E_callS (v := some (.int 1)) (As := [.int a3]) (r0 := []) (cs2 := w0) rfl rfl rfl (Nat.le_of_ble_eq_true rfl) rfl e2 (by decide) rfl ?_
    refine E_if (t := 31) (b := false) rfl rfl (by decide) ?_
    refine E_aload_n rfl rfl ?_
    refine E_iload_n rfl rfl ?_
    refine E_iload_n rfl rfl ?_
    refine E_bipush (x := 40) rfl (by decide) ?_
    refine E_iload rfl rfl ?_
    have e19 : Ev ab_Z0 1 116 [.int a4] w0 (some (.int 0), w0) := by
      refine Ef.in (md := mX5_isOneOfTwo) (L := [some (.int a4)]) rfl (Nat.le_of_ble_eq_true rfl) rfl ?_
      refine E_iload_n rfl rfl ?_
      refine E_if (t := 9) (b := false) rfl rfl ((cn_eq (rfl : (a4).toInt = (a4).toInt) (by decide : (0 : Int32).toInt = 0)).trans (decide_eq_false (by omega))) ?_
      refine E_iload_n rfl rfl ?_
      refine E_iconst (x := 1) rfl (by decide) ?_
      refine E_ic (t := 13) (b := true) rfl rfl ((cn_ne (rfl : (a4).toInt = (a4).toInt) (by decide : (1 : Int32).toInt = 1)).trans (decide_eq_true (by omega))) ?_
      refine E_iconst (x := 0) rfl (by decide) ?_
      exact E_iret rfl rfl
    refine E_callS (v := some (.int 0)) (As := [.int a4]) (r0 := [.int 40, .int a2, .int 7, .ref 0]) (cs2 := w0) rfl rfl rfl (Nat.le_of_ble_eq_true rfl) rfl e19 (by decide) rfl ?_
    refine E_if (t := 24) (b := false) rfl rfl (by decide) ?_
    refine E_iconst (x := 1) rfl (by decide) ?_
    refine E_goto (t := 25) rfl rfl ?_
    have e32 : Ev ab_Z0 3 120 [.ref 0, .int 7, .int a2, .int 40, .int 1] w0 (some (.int 3), w0) := by
      refine Ef.in (md := mX5_whyNoTwos) (L := [some (.ref 0), some (.int 7), some (.int a2), some (.int 40), some (.int 1), none]) rfl (Nat.le_of_ble_eq_true rfl) rfl ?_
      refine E_aload_n rfl rfl ?_
      refine E_iload_n rfl rfl ?_
      refine E_callV (v := some (.int 3)) (As := [.ref 0, .int 7]) (r0 := []) (cs2 := w0) rfl rfl rfl (Nat.le_of_ble_eq_true rfl) rfl rfl c60_X5_whyNoRow (by decide) rfl ?_
      refine E_istore (L2 := [some (.ref 0), some (.int 7), some (.int a2), some (.int 40), some (.int 1), some (.int 3)]) rfl rfl ?_
      refine E_iload rfl rfl ?_
      refine E_if (t := 15) (b := false) rfl rfl (by decide) ?_
      refine E_iload rfl rfl ?_
      exact E_iret rfl rfl
    refine E_callV (v := some (.int 3)) (As := [.ref 0, .int 7, .int a2, .int 40, .int 1]) (r0 := []) (cs2 := w0) rfl rfl rfl (Nat.le_of_ble_eq_true rfl) rfl rfl e32 (by decide) rfl ?_
    refine E_goto (t := 32) rfl rfl ?_
    refine E_istore (L2 := [some (.ref 0), some (.int 7), some (.int a2), some (.int a3), some (.int a4), some (.int 3), none, none, none]) rfl rfl ?_
    refine E_iload rfl rfl ?_
    refine E_if (t := 56) (b := true) rfl rfl (by decide) ?_
    refine E_iload rfl rfl ?_
    refine E_if (t := 71) (b := false) rfl rfl (by decide) ?_
    refine E_aload_n rfl rfl ?_
    refine E_iload rfl rfl ?_
    refine E_callV (v := some (.int (-3))) (As := [.ref 0, .int 3]) (r0 := []) (cs2 := (w0.set 48 (.inl [0, 0, 0, 1, 0, 0, 0, 0]))) rfl rfl rfl (Nat.le_of_ble_eq_true rfl) rfl rfl c32_X5_refuse (by decide) (by simp only [List.length_set]) ?_
    refine E_bipush (x := 10) rfl (by decide) ?_
    refine E_isub (z := (-13)) rfl (by decide) ?_
    exact E_iret rfl rfl, by
    refine Ef.in (md := mX6_costs) (L := [some (.ref 65), some (.int 7), some (.int a2), some (.int a3), some (.int a4), none, none, none, none, none, none, none]) rfl (Nat.le_of_ble_eq_true rfl) rfl ?_
    refine E_aload_n rfl rfl ?_
    refine E_iload_n rfl rfl ?_
    refine E_iconst (x := 0) rfl (by decide) ?_
    refine E_bipush (x := 7) rfl (by decide) ?_
    have e5 : Ev ab_Z0 1 134 [.ref 65, .int a3, .int 0, .int 7] (w0.set 48 (.inl [0, 0, 0, 1, 0, 0, 0, 0])) (some (.int 1), (w0.set 48 (.inl [0, 0, 0, 1, 0, 0, 0, 0]))) := by
      refine Ef.in (md := mX6_isFrom) (L := [some (.ref 65), some (.int a3), some (.int 0), some (.int 7)]) rfl (Nat.le_of_ble_eq_true rfl) rfl ?_
      refine E_iload_n rfl rfl ?_
      refine E_iload_n rfl rfl ?_
      refine E_ic (t := 14) (b := false) rfl rfl ((cn_lt (rfl : (a3).toInt = (a3).toInt) (by decide : (0 : Int32).toInt = 0)).trans (decide_eq_false (by omega))) ?_
      refine E_iload_n rfl rfl ?_
      refine E_iload_n rfl rfl ?_
      refine E_ic (t := 14) (b := false) rfl rfl ((cn_gt (rfl : (a3).toInt = (a3).toInt) (by decide : (7 : Int32).toInt = 7)).trans (decide_eq_false (by omega))) ?_
      refine E_iconst (x := 1) rfl (by decide) ?_
      refine E_goto (t := 15) rfl rfl ?_
      exact E_iret rfl rfl
    refine E_callV (v := some (.int 1)) (As := [.ref 65, .int a3, .int 0, .int 7]) (r0 := []) (cs2 := (w0.set 48 (.inl [0, 0, 0, 1, 0, 0, 0, 0]))) rfl rfl rfl (Nat.le_of_ble_eq_true rfl) rfl rfl e5 (by decide) rfl ?_
    refine E_if (t := 15) (b := true) rfl rfl (by decide) ?_
    refine E_aload_n rfl rfl ?_
    refine E_iload_n rfl rfl ?_
    refine E_iload_n rfl rfl ?_
    refine E_bipush (x := 40) rfl (by decide) ?_
    refine E_iload rfl rfl ?_
    refine E_if (t := 31) (b := false) rfl rfl ((cn_eq (rfl : (a4).toInt = (a4).toInt) (by decide : (0 : Int32).toInt = 0)).trans (decide_eq_false (by omega))) ?_
    refine E_iload rfl rfl ?_
    refine E_iconst (x := 1) rfl (by decide) ?_
    refine E_ic (t := 35) (b := true) rfl rfl ((cn_ne (rfl : (a4).toInt = (a4).toInt) (by decide : (1 : Int32).toInt = 1)).trans (decide_eq_true (by omega))) ?_
    refine E_iconst (x := 0) rfl (by decide) ?_
    have e28 : Ev ab_Z0 3 186 [.ref 65, .int 7, .int a2, .int 40, .int 0] (w0.set 48 (.inl [0, 0, 0, 1, 0, 0, 0, 0])) (some (.int (-3)), (w0.set 48 (.inl [0, 0, 0, 1, 0, 0, 0, 0]))) := by
      refine Ef.in (md := mX6_barsOf) (L := [some (.ref 65), some (.int 7), some (.int a2), some (.int 40), some (.int 0), none]) rfl (Nat.le_of_ble_eq_true rfl) rfl ?_
      refine E_aload_n rfl rfl ?_
      refine E_iload_n rfl rfl ?_
      refine E_callV (v := some (.int (-3))) (As := [.ref 65, .int 7]) (r0 := []) (cs2 := (w0.set 48 (.inl [0, 0, 0, 1, 0, 0, 0, 0]))) rfl rfl rfl (Nat.le_of_ble_eq_true rfl) rfl rfl c226_X6_wanted (by decide) rfl ?_
      refine E_istore (L2 := [some (.ref 65), some (.int 7), some (.int a2), some (.int 40), some (.int 0), some (.int (-3))]) rfl rfl ?_
      refine E_iload rfl rfl ?_
      refine E_if (t := 17) (b := false) rfl rfl (by decide) ?_
      refine E_iload rfl rfl ?_
      refine E_goto (t := 59) rfl rfl ?_
      exact E_iret rfl rfl
    refine E_callV (v := some (.int (-3))) (As := [.ref 65, .int 7, .int a2, .int 40, .int 0]) (r0 := []) (cs2 := (w0.set 48 (.inl [0, 0, 0, 1, 0, 0, 0, 0]))) rfl rfl rfl (Nat.le_of_ble_eq_true rfl) rfl rfl e28 (by decide) rfl ?_
    refine E_istore (L2 := [some (.ref 65), some (.int 7), some (.int a2), some (.int a3), some (.int a4), some (.int (-3)), none, none, none, none, none, none]) rfl rfl ?_
    refine E_iconst (x := 0) rfl (by decide) ?_
    refine E_istore (L2 := [some (.ref 65), some (.int 7), some (.int a2), some (.int a3), some (.int a4), some (.int (-3)), some (.int 0), none, none, none, none, none]) rfl rfl ?_
    refine E_iload rfl rfl ?_
    refine E_iload_n rfl rfl ?_
    refine E_ic (t := 80) (b := true) rfl rfl ((cn_ge (by decide : (0 : Int32).toInt = 0) (rfl : (a2).toInt = (a2).toInt)).trans (decide_eq_true (by omega))) ?_
    refine E_iload rfl rfl ?_
    refine E_if (t := 92) (b := false) rfl rfl (by decide) ?_
    refine E_aload_n rfl rfl ?_
    refine E_iload rfl rfl ?_
    refine E_callV (v := some (.int (-13))) (As := [.ref 65, .int (-3)]) (r0 := []) (cs2 := ((w0.set 48 (.inl [0, 0, 0, 1, 0, 0, 0, 0])).set 66 (.inl [0, 0, 0, 1, 0, 0, 0, 0]))) rfl rfl rfl (Nat.le_of_ble_eq_true rfl) rfl rfl c258_X6_noTen (by decide) (by simp only [List.length_set]) ?_
    exact E_iret rfl rfl, (by simp only [List.length_set]; rfl), (by simp only [List.length_set]; rfl), ((ab_szs rfl).trans ((ab_szs rfl).trans rfl)), fun _ => rfl⟩
theorem f_costs_80 (a2 a3 a4 : Int32) (ha2l : (1 : Int) ≤ a2.toInt) (ha3l : (0 : Int) ≤ a3.toInt) (ha3h : a3.toInt ≤ 7) (ha4l : (2 : Int) ≤ a4.toInt) : p1_P 6 100 4 188 [.ref 0, .int 7, .int a2, .int a3, .int a4] [.ref 65, .int 7, .int a2, .int a3, .int a4] :=
  ⟨(-13), (w0.set 48 (.inl [0, 0, 0, 1, 0, 0, 0, 0])), ((w0.set 48 (.inl [0, 0, 0, 1, 0, 0, 0, 0])).set 66 (.inl [0, 0, 0, 1, 0, 0, 0, 0])), by
    refine Ef.in (md := mX5_costs) (L := [some (.ref 0), some (.int 7), some (.int a2), some (.int a3), some (.int a4), none, none, none, none]) rfl (Nat.le_of_ble_eq_true rfl) rfl ?_
    refine E_iload_n rfl rfl ?_
    have e2 : Ev ab_Z0 1 47 [.int a3] w0 (some (.int 1), w0) := by
      refine Ef.in (md := mX4_isWish) (L := [some (.int a3)]) rfl (Nat.le_of_ble_eq_true rfl) rfl ?_
      refine E_iload_n rfl rfl ?_
      refine E_if (t := 14) (b := false) rfl rfl ((cn_lt (rfl : (a3).toInt = (a3).toInt) (by decide : (0 : Int32).toInt = 0)).trans (decide_eq_false (by omega))) ?_
      refine E_iload_n rfl rfl ?_
      refine E_bipush (x := 8) rfl (by decide) ?_
      refine E_ic (t := 14) (b := false) rfl rfl ((cn_ge (rfl : (a3).toInt = (a3).toInt) (by decide : (8 : Int32).toInt = 8)).trans (decide_eq_false (by omega))) ?_
      refine E_iconst (x := 1) rfl (by decide) ?_
      refine E_goto (t := 15) rfl rfl ?_
      exact E_iret rfl rfl
    refine E_callS (v := some (.int 1)) (As := [.int a3]) (r0 := []) (cs2 := w0) rfl rfl rfl (Nat.le_of_ble_eq_true rfl) rfl e2 (by decide) rfl ?_
    refine E_if (t := 31) (b := false) rfl rfl (by decide) ?_
    refine E_aload_n rfl rfl ?_
    refine E_iload_n rfl rfl ?_
    refine E_iload_n rfl rfl ?_
    refine E_bipush (x := 40) rfl (by decide) ?_
    refine E_iload rfl rfl ?_
    have e19 : Ev ab_Z0 1 116 [.int a4] w0 (some (.int 0), w0) := by
      refine Ef.in (md := mX5_isOneOfTwo) (L := [some (.int a4)]) rfl (Nat.le_of_ble_eq_true rfl) rfl ?_
      refine E_iload_n rfl rfl ?_
      refine E_if (t := 9) (b := false) rfl rfl ((cn_eq (rfl : (a4).toInt = (a4).toInt) (by decide : (0 : Int32).toInt = 0)).trans (decide_eq_false (by omega))) ?_
      refine E_iload_n rfl rfl ?_
      refine E_iconst (x := 1) rfl (by decide) ?_
      refine E_ic (t := 13) (b := true) rfl rfl ((cn_ne (rfl : (a4).toInt = (a4).toInt) (by decide : (1 : Int32).toInt = 1)).trans (decide_eq_true (by omega))) ?_
      refine E_iconst (x := 0) rfl (by decide) ?_
      exact E_iret rfl rfl
    refine E_callS (v := some (.int 0)) (As := [.int a4]) (r0 := [.int 40, .int a2, .int 7, .ref 0]) (cs2 := w0) rfl rfl rfl (Nat.le_of_ble_eq_true rfl) rfl e19 (by decide) rfl ?_
    refine E_if (t := 24) (b := false) rfl rfl (by decide) ?_
    refine E_iconst (x := 1) rfl (by decide) ?_
    refine E_goto (t := 25) rfl rfl ?_
    have e32 : Ev ab_Z0 3 120 [.ref 0, .int 7, .int a2, .int 40, .int 1] w0 (some (.int 3), w0) := by
      refine Ef.in (md := mX5_whyNoTwos) (L := [some (.ref 0), some (.int 7), some (.int a2), some (.int 40), some (.int 1), none]) rfl (Nat.le_of_ble_eq_true rfl) rfl ?_
      refine E_aload_n rfl rfl ?_
      refine E_iload_n rfl rfl ?_
      refine E_callV (v := some (.int 3)) (As := [.ref 0, .int 7]) (r0 := []) (cs2 := w0) rfl rfl rfl (Nat.le_of_ble_eq_true rfl) rfl rfl c60_X5_whyNoRow (by decide) rfl ?_
      refine E_istore (L2 := [some (.ref 0), some (.int 7), some (.int a2), some (.int 40), some (.int 1), some (.int 3)]) rfl rfl ?_
      refine E_iload rfl rfl ?_
      refine E_if (t := 15) (b := false) rfl rfl (by decide) ?_
      refine E_iload rfl rfl ?_
      exact E_iret rfl rfl
    refine E_callV (v := some (.int 3)) (As := [.ref 0, .int 7, .int a2, .int 40, .int 1]) (r0 := []) (cs2 := w0) rfl rfl rfl (Nat.le_of_ble_eq_true rfl) rfl rfl e32 (by decide) rfl ?_
    refine E_goto (t := 32) rfl rfl ?_
    refine E_istore (L2 := [some (.ref 0), some (.int 7), some (.int a2), some (.int a3), some (.int a4), some (.int 3), none, none, none]) rfl rfl ?_
    refine E_iload rfl rfl ?_
    refine E_if (t := 56) (b := true) rfl rfl (by decide) ?_
    refine E_iload rfl rfl ?_
    refine E_if (t := 71) (b := false) rfl rfl (by decide) ?_
    refine E_aload_n rfl rfl ?_
    refine E_iload rfl rfl ?_
    refine E_callV (v := some (.int (-3))) (As := [.ref 0, .int 3]) (r0 := []) (cs2 := (w0.set 48 (.inl [0, 0, 0, 1, 0, 0, 0, 0]))) rfl rfl rfl (Nat.le_of_ble_eq_true rfl) rfl rfl c32_X5_refuse (by decide) (by simp only [List.length_set]) ?_
    refine E_bipush (x := 10) rfl (by decide) ?_
    refine E_isub (z := (-13)) rfl (by decide) ?_
    exact E_iret rfl rfl, by
    refine Ef.in (md := mX6_costs) (L := [some (.ref 65), some (.int 7), some (.int a2), some (.int a3), some (.int a4), none, none, none, none, none, none, none]) rfl (Nat.le_of_ble_eq_true rfl) rfl ?_
    refine E_aload_n rfl rfl ?_
    refine E_iload_n rfl rfl ?_
    refine E_iconst (x := 0) rfl (by decide) ?_
    refine E_bipush (x := 7) rfl (by decide) ?_
    have e5 : Ev ab_Z0 1 134 [.ref 65, .int a3, .int 0, .int 7] (w0.set 48 (.inl [0, 0, 0, 1, 0, 0, 0, 0])) (some (.int 1), (w0.set 48 (.inl [0, 0, 0, 1, 0, 0, 0, 0]))) := by
      refine Ef.in (md := mX6_isFrom) (L := [some (.ref 65), some (.int a3), some (.int 0), some (.int 7)]) rfl (Nat.le_of_ble_eq_true rfl) rfl ?_
      refine E_iload_n rfl rfl ?_
      refine E_iload_n rfl rfl ?_
      refine E_ic (t := 14) (b := false) rfl rfl ((cn_lt (rfl : (a3).toInt = (a3).toInt) (by decide : (0 : Int32).toInt = 0)).trans (decide_eq_false (by omega))) ?_
      refine E_iload_n rfl rfl ?_
      refine E_iload_n rfl rfl ?_
      refine E_ic (t := 14) (b := false) rfl rfl ((cn_gt (rfl : (a3).toInt = (a3).toInt) (by decide : (7 : Int32).toInt = 7)).trans (decide_eq_false (by omega))) ?_
      refine E_iconst (x := 1) rfl (by decide) ?_
      refine E_goto (t := 15) rfl rfl ?_
      exact E_iret rfl rfl
    refine E_callV (v := some (.int 1)) (As := [.ref 65, .int a3, .int 0, .int 7]) (r0 := []) (cs2 := (w0.set 48 (.inl [0, 0, 0, 1, 0, 0, 0, 0]))) rfl rfl rfl (Nat.le_of_ble_eq_true rfl) rfl rfl e5 (by decide) rfl ?_
    refine E_if (t := 15) (b := true) rfl rfl (by decide) ?_
    refine E_aload_n rfl rfl ?_
    refine E_iload_n rfl rfl ?_
    refine E_iload_n rfl rfl ?_
    refine E_bipush (x := 40) rfl (by decide) ?_
    refine E_iload rfl rfl ?_
    refine E_if (t := 31) (b := false) rfl rfl ((cn_eq (rfl : (a4).toInt = (a4).toInt) (by decide : (0 : Int32).toInt = 0)).trans (decide_eq_false (by omega))) ?_
    refine E_iload rfl rfl ?_
    refine E_iconst (x := 1) rfl (by decide) ?_
    refine E_ic (t := 35) (b := true) rfl rfl ((cn_ne (rfl : (a4).toInt = (a4).toInt) (by decide : (1 : Int32).toInt = 1)).trans (decide_eq_true (by omega))) ?_
    refine E_iconst (x := 0) rfl (by decide) ?_
    have e28 : Ev ab_Z0 3 186 [.ref 65, .int 7, .int a2, .int 40, .int 0] (w0.set 48 (.inl [0, 0, 0, 1, 0, 0, 0, 0])) (some (.int (-3)), (w0.set 48 (.inl [0, 0, 0, 1, 0, 0, 0, 0]))) := by
      refine Ef.in (md := mX6_barsOf) (L := [some (.ref 65), some (.int 7), some (.int a2), some (.int 40), some (.int 0), none]) rfl (Nat.le_of_ble_eq_true rfl) rfl ?_
      refine E_aload_n rfl rfl ?_
      refine E_iload_n rfl rfl ?_
      refine E_callV (v := some (.int (-3))) (As := [.ref 65, .int 7]) (r0 := []) (cs2 := (w0.set 48 (.inl [0, 0, 0, 1, 0, 0, 0, 0]))) rfl rfl rfl (Nat.le_of_ble_eq_true rfl) rfl rfl c226_X6_wanted (by decide) rfl ?_
      refine E_istore (L2 := [some (.ref 65), some (.int 7), some (.int a2), some (.int 40), some (.int 0), some (.int (-3))]) rfl rfl ?_
      refine E_iload rfl rfl ?_
      refine E_if (t := 17) (b := false) rfl rfl (by decide) ?_
      refine E_iload rfl rfl ?_
      refine E_goto (t := 59) rfl rfl ?_
      exact E_iret rfl rfl
    refine E_callV (v := some (.int (-3))) (As := [.ref 65, .int 7, .int a2, .int 40, .int 0]) (r0 := []) (cs2 := (w0.set 48 (.inl [0, 0, 0, 1, 0, 0, 0, 0]))) rfl rfl rfl (Nat.le_of_ble_eq_true rfl) rfl rfl e28 (by decide) rfl ?_
    refine E_istore (L2 := [some (.ref 65), some (.int 7), some (.int a2), some (.int a3), some (.int a4), some (.int (-3)), none, none, none, none, none, none]) rfl rfl ?_
    refine E_iconst (x := 0) rfl (by decide) ?_
    refine E_istore (L2 := [some (.ref 65), some (.int 7), some (.int a2), some (.int a3), some (.int a4), some (.int (-3)), some (.int 0), none, none, none, none, none]) rfl rfl ?_
    refine E_iload rfl rfl ?_
    refine E_iload_n rfl rfl ?_
    refine E_ic (t := 80) (b := false) rfl rfl ((cn_ge (by decide : (0 : Int32).toInt = 0) (rfl : (a2).toInt = (a2).toInt)).trans (decide_eq_false (by omega))) ?_
    refine E_iload rfl rfl ?_
    refine E_if (t := 80) (b := true) rfl rfl (by decide) ?_
    refine E_iload rfl rfl ?_
    refine E_if (t := 92) (b := false) rfl rfl (by decide) ?_
    refine E_aload_n rfl rfl ?_
    refine E_iload rfl rfl ?_
    refine E_callV (v := some (.int (-13))) (As := [.ref 65, .int (-3)]) (r0 := []) (cs2 := ((w0.set 48 (.inl [0, 0, 0, 1, 0, 0, 0, 0])).set 66 (.inl [0, 0, 0, 1, 0, 0, 0, 0]))) rfl rfl rfl (Nat.le_of_ble_eq_true rfl) rfl rfl c258_X6_noTen (by decide) (by simp only [List.length_set]) ?_
    exact E_iret rfl rfl, (by simp only [List.length_set]; rfl), (by simp only [List.length_set]; rfl), ((ab_szs rfl).trans ((ab_szs rfl).trans rfl)), fun _ => rfl⟩
theorem f_costs_81 (a1 a2 a3 a4 : Int32) (ha1l : (8 : Int) ≤ a1.toInt) (ha2h : a2.toInt ≤ 0) (ha3l : (0 : Int) ≤ a3.toInt) (ha3h : a3.toInt ≤ 7) (ha4l : (2 : Int) ≤ a4.toInt) : p1_P 6 100 4 188 [.ref 0, .int a1, .int a2, .int a3, .int a4] [.ref 65, .int a1, .int a2, .int a3, .int a4] :=
  ⟨(-11), (w0.set 48 (.inl [0, 1, 0, 0, 0, 0, 0, 0])), ((w0.set 48 (.inl [0, 1, 0, 0, 0, 0, 0, 0])).set 66 (.inl [0, 1, 0, 0, 0, 0, 0, 0])), by
    refine Ef.in (md := mX5_costs) (L := [some (.ref 0), some (.int a1), some (.int a2), some (.int a3), some (.int a4), none, none, none, none]) rfl (Nat.le_of_ble_eq_true rfl) rfl ?_
    refine E_iload_n rfl rfl ?_
    have e2 : Ev ab_Z0 1 47 [.int a3] w0 (some (.int 1), w0) := by
      refine Ef.in (md := mX4_isWish) (L := [some (.int a3)]) rfl (Nat.le_of_ble_eq_true rfl) rfl ?_
      refine E_iload_n rfl rfl ?_
      refine E_if (t := 14) (b := false) rfl rfl ((cn_lt (rfl : (a3).toInt = (a3).toInt) (by decide : (0 : Int32).toInt = 0)).trans (decide_eq_false (by omega))) ?_
      refine E_iload_n rfl rfl ?_
      refine E_bipush (x := 8) rfl (by decide) ?_
      refine E_ic (t := 14) (b := false) rfl rfl ((cn_ge (rfl : (a3).toInt = (a3).toInt) (by decide : (8 : Int32).toInt = 8)).trans (decide_eq_false (by omega))) ?_
      refine E_iconst (x := 1) rfl (by decide) ?_
      refine E_goto (t := 15) rfl rfl ?_
      exact E_iret rfl rfl
    refine E_callS (v := some (.int 1)) (As := [.int a3]) (r0 := []) (cs2 := w0) rfl rfl rfl (Nat.le_of_ble_eq_true rfl) rfl e2 (by decide) rfl ?_
    refine E_if (t := 31) (b := false) rfl rfl (by decide) ?_
    refine E_aload_n rfl rfl ?_
    refine E_iload_n rfl rfl ?_
    refine E_iload_n rfl rfl ?_
    refine E_bipush (x := 40) rfl (by decide) ?_
    refine E_iload rfl rfl ?_
    have e19 : Ev ab_Z0 1 116 [.int a4] w0 (some (.int 0), w0) := by
      refine Ef.in (md := mX5_isOneOfTwo) (L := [some (.int a4)]) rfl (Nat.le_of_ble_eq_true rfl) rfl ?_
      refine E_iload_n rfl rfl ?_
      refine E_if (t := 9) (b := false) rfl rfl ((cn_eq (rfl : (a4).toInt = (a4).toInt) (by decide : (0 : Int32).toInt = 0)).trans (decide_eq_false (by omega))) ?_
      refine E_iload_n rfl rfl ?_
      refine E_iconst (x := 1) rfl (by decide) ?_
      refine E_ic (t := 13) (b := true) rfl rfl ((cn_ne (rfl : (a4).toInt = (a4).toInt) (by decide : (1 : Int32).toInt = 1)).trans (decide_eq_true (by omega))) ?_
      refine E_iconst (x := 0) rfl (by decide) ?_
      exact E_iret rfl rfl
    refine E_callS (v := some (.int 0)) (As := [.int a4]) (r0 := [.int 40, .int a2, .int a1, .ref 0]) (cs2 := w0) rfl rfl rfl (Nat.le_of_ble_eq_true rfl) rfl e19 (by decide) rfl ?_
    refine E_if (t := 24) (b := false) rfl rfl (by decide) ?_
    refine E_iconst (x := 1) rfl (by decide) ?_
    refine E_goto (t := 25) rfl rfl ?_
    have e32 : Ev ab_Z0 3 120 [.ref 0, .int a1, .int a2, .int 40, .int 1] w0 (some (.int 1), w0) := by
      refine Ef.in (md := mX5_whyNoTwos) (L := [some (.ref 0), some (.int a1), some (.int a2), some (.int 40), some (.int 1), none]) rfl (Nat.le_of_ble_eq_true rfl) rfl ?_
      refine E_aload_n rfl rfl ?_
      refine E_iload_n rfl rfl ?_
      have e3 : Ev ab_Z0 2 119 [.ref 0, .int a1] w0 (some (.int 1), w0) := by
        refine Ef.in (md := mX5_whyNoRow) (L := [some (.ref 0), some (.int a1)]) rfl (Nat.le_of_ble_eq_true rfl) rfl ?_
        refine E_iload_n rfl rfl ?_
        have e2 : Ev ab_Z0 1 117 [.int a1] w0 (some (.int 0), w0) := by
          refine Ef.in (md := mX5_isShelf) (L := [some (.int a1)]) rfl (Nat.le_of_ble_eq_true rfl) rfl ?_
          refine E_iload_n rfl rfl ?_
          refine E_if (t := 14) (b := false) rfl rfl ((cn_lt (rfl : (a1).toInt = (a1).toInt) (by decide : (0 : Int32).toInt = 0)).trans (decide_eq_false (by omega))) ?_
          refine E_iload_n rfl rfl ?_
          refine E_bipush (x := 8) rfl (by decide) ?_
          refine E_ic (t := 14) (b := true) rfl rfl ((cn_ge (rfl : (a1).toInt = (a1).toInt) (by decide : (8 : Int32).toInt = 8)).trans (decide_eq_true (by omega))) ?_
          refine E_iconst (x := 0) rfl (by decide) ?_
          exact E_iret rfl rfl
        refine E_callS (v := some (.int 0)) (As := [.int a1]) (r0 := []) (cs2 := w0) rfl rfl rfl (Nat.le_of_ble_eq_true rfl) rfl e2 (by decide) rfl ?_
        refine E_if (t := 9) (b := false) rfl rfl (by decide) ?_
        refine E_iconst (x := 1) rfl (by decide) ?_
        exact E_iret rfl rfl
      refine E_callV (v := some (.int 1)) (As := [.ref 0, .int a1]) (r0 := []) (cs2 := w0) rfl rfl rfl (Nat.le_of_ble_eq_true rfl) rfl rfl e3 (by decide) rfl ?_
      refine E_istore (L2 := [some (.ref 0), some (.int a1), some (.int a2), some (.int 40), some (.int 1), some (.int 1)]) rfl rfl ?_
      refine E_iload rfl rfl ?_
      refine E_if (t := 15) (b := false) rfl rfl (by decide) ?_
      refine E_iload rfl rfl ?_
      exact E_iret rfl rfl
    refine E_callV (v := some (.int 1)) (As := [.ref 0, .int a1, .int a2, .int 40, .int 1]) (r0 := []) (cs2 := w0) rfl rfl rfl (Nat.le_of_ble_eq_true rfl) rfl rfl e32 (by decide) rfl ?_
    refine E_goto (t := 32) rfl rfl ?_
    refine E_istore (L2 := [some (.ref 0), some (.int a1), some (.int a2), some (.int a3), some (.int a4), some (.int 1), none, none, none]) rfl rfl ?_
    refine E_iload rfl rfl ?_
    refine E_if (t := 56) (b := true) rfl rfl (by decide) ?_
    refine E_iload rfl rfl ?_
    refine E_if (t := 71) (b := false) rfl rfl (by decide) ?_
    refine E_aload_n rfl rfl ?_
    refine E_iload rfl rfl ?_
    refine E_callV (v := some (.int (-1))) (As := [.ref 0, .int 1]) (r0 := []) (cs2 := (w0.set 48 (.inl [0, 1, 0, 0, 0, 0, 0, 0]))) rfl rfl rfl (Nat.le_of_ble_eq_true rfl) rfl rfl c1_X5_refuse (by decide) (by simp only [List.length_set]) ?_
    refine E_bipush (x := 10) rfl (by decide) ?_
    refine E_isub (z := (-11)) rfl (by decide) ?_
    exact E_iret rfl rfl, by
    refine Ef.in (md := mX6_costs) (L := [some (.ref 65), some (.int a1), some (.int a2), some (.int a3), some (.int a4), none, none, none, none, none, none, none]) rfl (Nat.le_of_ble_eq_true rfl) rfl ?_
    refine E_aload_n rfl rfl ?_
    refine E_iload_n rfl rfl ?_
    refine E_iconst (x := 0) rfl (by decide) ?_
    refine E_bipush (x := 7) rfl (by decide) ?_
    have e5 : Ev ab_Z0 1 134 [.ref 65, .int a3, .int 0, .int 7] (w0.set 48 (.inl [0, 1, 0, 0, 0, 0, 0, 0])) (some (.int 1), (w0.set 48 (.inl [0, 1, 0, 0, 0, 0, 0, 0]))) := by
      refine Ef.in (md := mX6_isFrom) (L := [some (.ref 65), some (.int a3), some (.int 0), some (.int 7)]) rfl (Nat.le_of_ble_eq_true rfl) rfl ?_
      refine E_iload_n rfl rfl ?_
      refine E_iload_n rfl rfl ?_
      refine E_ic (t := 14) (b := false) rfl rfl ((cn_lt (rfl : (a3).toInt = (a3).toInt) (by decide : (0 : Int32).toInt = 0)).trans (decide_eq_false (by omega))) ?_
      refine E_iload_n rfl rfl ?_
      refine E_iload_n rfl rfl ?_
      refine E_ic (t := 14) (b := false) rfl rfl ((cn_gt (rfl : (a3).toInt = (a3).toInt) (by decide : (7 : Int32).toInt = 7)).trans (decide_eq_false (by omega))) ?_
      refine E_iconst (x := 1) rfl (by decide) ?_
      refine E_goto (t := 15) rfl rfl ?_
      exact E_iret rfl rfl
    refine E_callV (v := some (.int 1)) (As := [.ref 65, .int a3, .int 0, .int 7]) (r0 := []) (cs2 := (w0.set 48 (.inl [0, 1, 0, 0, 0, 0, 0, 0]))) rfl rfl rfl (Nat.le_of_ble_eq_true rfl) rfl rfl e5 (by decide) rfl ?_
    refine E_if (t := 15) (b := true) rfl rfl (by decide) ?_
    refine E_aload_n rfl rfl ?_
    refine E_iload_n rfl rfl ?_
    refine E_iload_n rfl rfl ?_
    refine E_bipush (x := 40) rfl (by decide) ?_
    refine E_iload rfl rfl ?_
    refine E_if (t := 31) (b := false) rfl rfl ((cn_eq (rfl : (a4).toInt = (a4).toInt) (by decide : (0 : Int32).toInt = 0)).trans (decide_eq_false (by omega))) ?_
    refine E_iload rfl rfl ?_
    refine E_iconst (x := 1) rfl (by decide) ?_
    refine E_ic (t := 35) (b := true) rfl rfl ((cn_ne (rfl : (a4).toInt = (a4).toInt) (by decide : (1 : Int32).toInt = 1)).trans (decide_eq_true (by omega))) ?_
    refine E_iconst (x := 0) rfl (by decide) ?_
    have e28 : Ev ab_Z0 3 186 [.ref 65, .int a1, .int a2, .int 40, .int 0] (w0.set 48 (.inl [0, 1, 0, 0, 0, 0, 0, 0])) (some (.int (-1)), (w0.set 48 (.inl [0, 1, 0, 0, 0, 0, 0, 0]))) := by
      refine Ef.in (md := mX6_barsOf) (L := [some (.ref 65), some (.int a1), some (.int a2), some (.int 40), some (.int 0), none]) rfl (Nat.le_of_ble_eq_true rfl) rfl ?_
      refine E_aload_n rfl rfl ?_
      refine E_iload_n rfl rfl ?_
      have e3 : Ev ab_Z0 2 142 [.ref 65, .int a1] (w0.set 48 (.inl [0, 1, 0, 0, 0, 0, 0, 0])) (some (.int (-1)), (w0.set 48 (.inl [0, 1, 0, 0, 0, 0, 0, 0]))) := by
        refine Ef.in (md := mX6_wanted) (L := [some (.ref 65), some (.int a1)]) rfl (Nat.le_of_ble_eq_true rfl) rfl ?_
        refine E_aload_n rfl rfl ?_
        refine E_iload_n rfl rfl ?_
        have e3 : Ev ab_Z0 1 131 [.ref 65, .int a1] (w0.set 48 (.inl [0, 1, 0, 0, 0, 0, 0, 0])) (some (.int 0), (w0.set 48 (.inl [0, 1, 0, 0, 0, 0, 0, 0]))) := by
          refine Ef.in (md := mX6_isShelf) (L := [some (.ref 65), some (.int a1)]) rfl (Nat.le_of_ble_eq_true rfl) rfl ?_
          refine E_iload_n rfl rfl ?_
          refine E_if (t := 14) (b := false) rfl rfl ((cn_lt (rfl : (a1).toInt = (a1).toInt) (by decide : (0 : Int32).toInt = 0)).trans (decide_eq_false (by omega))) ?_
          refine E_iload_n rfl rfl ?_
          refine E_bipush (x := 8) rfl (by decide) ?_
          refine E_ic (t := 14) (b := true) rfl rfl ((cn_ge (rfl : (a1).toInt = (a1).toInt) (by decide : (8 : Int32).toInt = 8)).trans (decide_eq_true (by omega))) ?_
          refine E_iconst (x := 0) rfl (by decide) ?_
          exact E_iret rfl rfl
        refine E_callV (v := some (.int 0)) (As := [.ref 65, .int a1]) (r0 := []) (cs2 := (w0.set 48 (.inl [0, 1, 0, 0, 0, 0, 0, 0]))) rfl rfl rfl (Nat.le_of_ble_eq_true rfl) rfl rfl e3 (by decide) rfl ?_
        refine E_if (t := 12) (b := false) rfl rfl (by decide) ?_
        refine E_iconst (x := (-1)) rfl (by decide) ?_
        refine E_goto (t := 42) rfl rfl ?_
        exact E_iret rfl rfl
      refine E_callV (v := some (.int (-1))) (As := [.ref 65, .int a1]) (r0 := []) (cs2 := (w0.set 48 (.inl [0, 1, 0, 0, 0, 0, 0, 0]))) rfl rfl rfl (Nat.le_of_ble_eq_true rfl) rfl rfl e3 (by decide) rfl ?_
      refine E_istore (L2 := [some (.ref 65), some (.int a1), some (.int a2), some (.int 40), some (.int 0), some (.int (-1))]) rfl rfl ?_
      refine E_iload rfl rfl ?_
      refine E_if (t := 17) (b := false) rfl rfl (by decide) ?_
      refine E_iload rfl rfl ?_
      refine E_goto (t := 59) rfl rfl ?_
      exact E_iret rfl rfl
    refine E_callV (v := some (.int (-1))) (As := [.ref 65, .int a1, .int a2, .int 40, .int 0]) (r0 := []) (cs2 := (w0.set 48 (.inl [0, 1, 0, 0, 0, 0, 0, 0]))) rfl rfl rfl (Nat.le_of_ble_eq_true rfl) rfl rfl e28 (by decide) rfl ?_
    refine E_istore (L2 := [some (.ref 65), some (.int a1), some (.int a2), some (.int a3), some (.int a4), some (.int (-1)), none, none, none, none, none, none]) rfl rfl ?_
    refine E_iconst (x := 0) rfl (by decide) ?_
    refine E_istore (L2 := [some (.ref 65), some (.int a1), some (.int a2), some (.int a3), some (.int a4), some (.int (-1)), some (.int 0), none, none, none, none, none]) rfl rfl ?_
    refine E_iload rfl rfl ?_
    refine E_iload_n rfl rfl ?_
    refine E_ic (t := 80) (b := true) rfl rfl ((cn_ge (by decide : (0 : Int32).toInt = 0) (rfl : (a2).toInt = (a2).toInt)).trans (decide_eq_true (by omega))) ?_
    refine E_iload rfl rfl ?_
    refine E_if (t := 92) (b := false) rfl rfl (by decide) ?_
    refine E_aload_n rfl rfl ?_
    refine E_iload rfl rfl ?_
    refine E_callV (v := some (.int (-11))) (As := [.ref 65, .int (-1)]) (r0 := []) (cs2 := ((w0.set 48 (.inl [0, 1, 0, 0, 0, 0, 0, 0])).set 66 (.inl [0, 1, 0, 0, 0, 0, 0, 0]))) rfl rfl rfl (Nat.le_of_ble_eq_true rfl) rfl rfl c247_X6_noTen (by decide) (by simp only [List.length_set]) ?_
    exact E_iret rfl rfl, (by simp only [List.length_set]; rfl), (by simp only [List.length_set]; rfl), ((ab_szs rfl).trans ((ab_szs rfl).trans rfl)), fun _ => rfl⟩
theorem f_costs_82 (a1 a2 a3 a4 : Int32) (ha1l : (8 : Int) ≤ a1.toInt) (ha2l : (1 : Int) ≤ a2.toInt) (ha3l : (0 : Int) ≤ a3.toInt) (ha3h : a3.toInt ≤ 7) (ha4l : (2 : Int) ≤ a4.toInt) : p1_P 6 100 4 188 [.ref 0, .int a1, .int a2, .int a3, .int a4] [.ref 65, .int a1, .int a2, .int a3, .int a4] :=
  ⟨(-11), (w0.set 48 (.inl [0, 1, 0, 0, 0, 0, 0, 0])), ((w0.set 48 (.inl [0, 1, 0, 0, 0, 0, 0, 0])).set 66 (.inl [0, 1, 0, 0, 0, 0, 0, 0])), by
    refine Ef.in (md := mX5_costs) (L := [some (.ref 0), some (.int a1), some (.int a2), some (.int a3), some (.int a4), none, none, none, none]) rfl (Nat.le_of_ble_eq_true rfl) rfl ?_
    refine E_iload_n rfl rfl ?_
    have e2 : Ev ab_Z0 1 47 [.int a3] w0 (some (.int 1), w0) := by
      refine Ef.in (md := mX4_isWish) (L := [some (.int a3)]) rfl (Nat.le_of_ble_eq_true rfl) rfl ?_
      refine E_iload_n rfl rfl ?_
      refine E_if (t := 14) (b := false) rfl rfl ((cn_lt (rfl : (a3).toInt = (a3).toInt) (by decide : (0 : Int32).toInt = 0)).trans (decide_eq_false (by omega))) ?_
      refine E_iload_n rfl rfl ?_
      refine E_bipush (x := 8) rfl (by decide) ?_
      refine E_ic (t := 14) (b := false) rfl rfl ((cn_ge (rfl : (a3).toInt = (a3).toInt) (by decide : (8 : Int32).toInt = 8)).trans (decide_eq_false (by omega))) ?_
      refine E_iconst (x := 1) rfl (by decide) ?_
      refine E_goto (t := 15) rfl rfl ?_
      exact E_iret rfl rfl
    refine E_callS (v := some (.int 1)) (As := [.int a3]) (r0 := []) (cs2 := w0) rfl rfl rfl (Nat.le_of_ble_eq_true rfl) rfl e2 (by decide) rfl ?_
    refine E_if (t := 31) (b := false) rfl rfl (by decide) ?_
    refine E_aload_n rfl rfl ?_
    refine E_iload_n rfl rfl ?_
    refine E_iload_n rfl rfl ?_
    refine E_bipush (x := 40) rfl (by decide) ?_
    refine E_iload rfl rfl ?_
    have e19 : Ev ab_Z0 1 116 [.int a4] w0 (some (.int 0), w0) := by
      refine Ef.in (md := mX5_isOneOfTwo) (L := [some (.int a4)]) rfl (Nat.le_of_ble_eq_true rfl) rfl ?_
      refine E_iload_n rfl rfl ?_
      refine E_if (t := 9) (b := false) rfl rfl ((cn_eq (rfl : (a4).toInt = (a4).toInt) (by decide : (0 : Int32).toInt = 0)).trans (decide_eq_false (by omega))) ?_
      refine E_iload_n rfl rfl ?_
      refine E_iconst (x := 1) rfl (by decide) ?_
      refine E_ic (t := 13) (b := true) rfl rfl ((cn_ne (rfl : (a4).toInt = (a4).toInt) (by decide : (1 : Int32).toInt = 1)).trans (decide_eq_true (by omega))) ?_
      refine E_iconst (x := 0) rfl (by decide) ?_
      exact E_iret rfl rfl
    refine E_callS (v := some (.int 0)) (As := [.int a4]) (r0 := [.int 40, .int a2, .int a1, .ref 0]) (cs2 := w0) rfl rfl rfl (Nat.le_of_ble_eq_true rfl) rfl e19 (by decide) rfl ?_
    refine E_if (t := 24) (b := false) rfl rfl (by decide) ?_
    refine E_iconst (x := 1) rfl (by decide) ?_
    refine E_goto (t := 25) rfl rfl ?_
    have e32 : Ev ab_Z0 3 120 [.ref 0, .int a1, .int a2, .int 40, .int 1] w0 (some (.int 1), w0) := by
      refine Ef.in (md := mX5_whyNoTwos) (L := [some (.ref 0), some (.int a1), some (.int a2), some (.int 40), some (.int 1), none]) rfl (Nat.le_of_ble_eq_true rfl) rfl ?_
      refine E_aload_n rfl rfl ?_
      refine E_iload_n rfl rfl ?_
      have e3 : Ev ab_Z0 2 119 [.ref 0, .int a1] w0 (some (.int 1), w0) := by
        refine Ef.in (md := mX5_whyNoRow) (L := [some (.ref 0), some (.int a1)]) rfl (Nat.le_of_ble_eq_true rfl) rfl ?_
        refine E_iload_n rfl rfl ?_
        have e2 : Ev ab_Z0 1 117 [.int a1] w0 (some (.int 0), w0) := by
          refine Ef.in (md := mX5_isShelf) (L := [some (.int a1)]) rfl (Nat.le_of_ble_eq_true rfl) rfl ?_
          refine E_iload_n rfl rfl ?_
          refine E_if (t := 14) (b := false) rfl rfl ((cn_lt (rfl : (a1).toInt = (a1).toInt) (by decide : (0 : Int32).toInt = 0)).trans (decide_eq_false (by omega))) ?_
          refine E_iload_n rfl rfl ?_
          refine E_bipush (x := 8) rfl (by decide) ?_
          refine E_ic (t := 14) (b := true) rfl rfl ((cn_ge (rfl : (a1).toInt = (a1).toInt) (by decide : (8 : Int32).toInt = 8)).trans (decide_eq_true (by omega))) ?_
          refine E_iconst (x := 0) rfl (by decide) ?_
          exact E_iret rfl rfl
        refine E_callS (v := some (.int 0)) (As := [.int a1]) (r0 := []) (cs2 := w0) rfl rfl rfl (Nat.le_of_ble_eq_true rfl) rfl e2 (by decide) rfl ?_
        refine E_if (t := 9) (b := false) rfl rfl (by decide) ?_
        refine E_iconst (x := 1) rfl (by decide) ?_
        exact E_iret rfl rfl
      refine E_callV (v := some (.int 1)) (As := [.ref 0, .int a1]) (r0 := []) (cs2 := w0) rfl rfl rfl (Nat.le_of_ble_eq_true rfl) rfl rfl e3 (by decide) rfl ?_
      refine E_istore (L2 := [some (.ref 0), some (.int a1), some (.int a2), some (.int 40), some (.int 1), some (.int 1)]) rfl rfl ?_
      refine E_iload rfl rfl ?_
      refine E_if (t := 15) (b := false) rfl rfl (by decide) ?_
      refine E_iload rfl rfl ?_
      exact E_iret rfl rfl
    refine E_callV (v := some (.int 1)) (As := [.ref 0, .int a1, .int a2, .int 40, .int 1]) (r0 := []) (cs2 := w0) rfl rfl rfl (Nat.le_of_ble_eq_true rfl) rfl rfl e32 (by decide) rfl ?_
    refine E_goto (t := 32) rfl rfl ?_
    refine E_istore (L2 := [some (.ref 0), some (.int a1), some (.int a2), some (.int a3), some (.int a4), some (.int 1), none, none, none]) rfl rfl ?_
    refine E_iload rfl rfl ?_
    refine E_if (t := 56) (b := true) rfl rfl (by decide) ?_
    refine E_iload rfl rfl ?_
    refine E_if (t := 71) (b := false) rfl rfl (by decide) ?_
    refine E_aload_n rfl rfl ?_
    refine E_iload rfl rfl ?_
    refine E_callV (v := some (.int (-1))) (As := [.ref 0, .int 1]) (r0 := []) (cs2 := (w0.set 48 (.inl [0, 1, 0, 0, 0, 0, 0, 0]))) rfl rfl rfl (Nat.le_of_ble_eq_true rfl) rfl rfl c1_X5_refuse (by decide) (by simp only [List.length_set]) ?_
    refine E_bipush (x := 10) rfl (by decide) ?_
    refine E_isub (z := (-11)) rfl (by decide) ?_
    exact E_iret rfl rfl, by
    refine Ef.in (md := mX6_costs) (L := [some (.ref 65), some (.int a1), some (.int a2), some (.int a3), some (.int a4), none, none, none, none, none, none, none]) rfl (Nat.le_of_ble_eq_true rfl) rfl ?_
    refine E_aload_n rfl rfl ?_
    refine E_iload_n rfl rfl ?_
    refine E_iconst (x := 0) rfl (by decide) ?_
    refine E_bipush (x := 7) rfl (by decide) ?_
    have e5 : Ev ab_Z0 1 134 [.ref 65, .int a3, .int 0, .int 7] (w0.set 48 (.inl [0, 1, 0, 0, 0, 0, 0, 0])) (some (.int 1), (w0.set 48 (.inl [0, 1, 0, 0, 0, 0, 0, 0]))) := by
      refine Ef.in (md := mX6_isFrom) (L := [some (.ref 65), some (.int a3), some (.int 0), some (.int 7)]) rfl (Nat.le_of_ble_eq_true rfl) rfl ?_
      refine E_iload_n rfl rfl ?_
      refine E_iload_n rfl rfl ?_
      refine E_ic (t := 14) (b := false) rfl rfl ((cn_lt (rfl : (a3).toInt = (a3).toInt) (by decide : (0 : Int32).toInt = 0)).trans (decide_eq_false (by omega))) ?_
      refine E_iload_n rfl rfl ?_
      refine E_iload_n rfl rfl ?_
      refine E_ic (t := 14) (b := false) rfl rfl ((cn_gt (rfl : (a3).toInt = (a3).toInt) (by decide : (7 : Int32).toInt = 7)).trans (decide_eq_false (by omega))) ?_
      refine E_iconst (x := 1) rfl (by decide) ?_
      refine E_goto (t := 15) rfl rfl ?_
      exact E_iret rfl rfl
    refine E_callV (v := some (.int 1)) (As := [.ref 65, .int a3, .int 0, .int 7]) (r0 := []) (cs2 := (w0.set 48 (.inl [0, 1, 0, 0, 0, 0, 0, 0]))) rfl rfl rfl (Nat.le_of_ble_eq_true rfl) rfl rfl e5 (by decide) rfl ?_
    refine E_if (t := 15) (b := true) rfl rfl (by decide) ?_
    refine E_aload_n rfl rfl ?_
    refine E_iload_n rfl rfl ?_
    refine E_iload_n rfl rfl ?_
    refine E_bipush (x := 40) rfl (by decide) ?_
    refine E_iload rfl rfl ?_
    refine E_if (t := 31) (b := false) rfl rfl ((cn_eq (rfl : (a4).toInt = (a4).toInt) (by decide : (0 : Int32).toInt = 0)).trans (decide_eq_false (by omega))) ?_
    refine E_iload rfl rfl ?_
    refine E_iconst (x := 1) rfl (by decide) ?_
    refine E_ic (t := 35) (b := true) rfl rfl ((cn_ne (rfl : (a4).toInt = (a4).toInt) (by decide : (1 : Int32).toInt = 1)).trans (decide_eq_true (by omega))) ?_
    refine E_iconst (x := 0) rfl (by decide) ?_
    have e28 : Ev ab_Z0 3 186 [.ref 65, .int a1, .int a2, .int 40, .int 0] (w0.set 48 (.inl [0, 1, 0, 0, 0, 0, 0, 0])) (some (.int (-1)), (w0.set 48 (.inl [0, 1, 0, 0, 0, 0, 0, 0]))) := by
      refine Ef.in (md := mX6_barsOf) (L := [some (.ref 65), some (.int a1), some (.int a2), some (.int 40), some (.int 0), none]) rfl (Nat.le_of_ble_eq_true rfl) rfl ?_
      refine E_aload_n rfl rfl ?_
      refine E_iload_n rfl rfl ?_
      have e3 : Ev ab_Z0 2 142 [.ref 65, .int a1] (w0.set 48 (.inl [0, 1, 0, 0, 0, 0, 0, 0])) (some (.int (-1)), (w0.set 48 (.inl [0, 1, 0, 0, 0, 0, 0, 0]))) := by
        refine Ef.in (md := mX6_wanted) (L := [some (.ref 65), some (.int a1)]) rfl (Nat.le_of_ble_eq_true rfl) rfl ?_
        refine E_aload_n rfl rfl ?_
        refine E_iload_n rfl rfl ?_
        have e3 : Ev ab_Z0 1 131 [.ref 65, .int a1] (w0.set 48 (.inl [0, 1, 0, 0, 0, 0, 0, 0])) (some (.int 0), (w0.set 48 (.inl [0, 1, 0, 0, 0, 0, 0, 0]))) := by
          refine Ef.in (md := mX6_isShelf) (L := [some (.ref 65), some (.int a1)]) rfl (Nat.le_of_ble_eq_true rfl) rfl ?_
          refine E_iload_n rfl rfl ?_
          refine E_if (t := 14) (b := false) rfl rfl ((cn_lt (rfl : (a1).toInt = (a1).toInt) (by decide : (0 : Int32).toInt = 0)).trans (decide_eq_false (by omega))) ?_
          refine E_iload_n rfl rfl ?_
          refine E_bipush (x := 8) rfl (by decide) ?_
          refine E_ic (t := 14) (b := true) rfl rfl ((cn_ge (rfl : (a1).toInt = (a1).toInt) (by decide : (8 : Int32).toInt = 8)).trans (decide_eq_true (by omega))) ?_
          refine E_iconst (x := 0) rfl (by decide) ?_
          exact E_iret rfl rfl
        refine E_callV (v := some (.int 0)) (As := [.ref 65, .int a1]) (r0 := []) (cs2 := (w0.set 48 (.inl [0, 1, 0, 0, 0, 0, 0, 0]))) rfl rfl rfl (Nat.le_of_ble_eq_true rfl) rfl rfl e3 (by decide) rfl ?_
        refine E_if (t := 12) (b := false) rfl rfl (by decide) ?_
        refine E_iconst (x := (-1)) rfl (by decide) ?_
        refine E_goto (t := 42) rfl rfl ?_
        exact E_iret rfl rfl
      refine E_callV (v := some (.int (-1))) (As := [.ref 65, .int a1]) (r0 := []) (cs2 := (w0.set 48 (.inl [0, 1, 0, 0, 0, 0, 0, 0]))) rfl rfl rfl (Nat.le_of_ble_eq_true rfl) rfl rfl e3 (by decide) rfl ?_
      refine E_istore (L2 := [some (.ref 65), some (.int a1), some (.int a2), some (.int 40), some (.int 0), some (.int (-1))]) rfl rfl ?_
      refine E_iload rfl rfl ?_
      refine E_if (t := 17) (b := false) rfl rfl (by decide) ?_
      refine E_iload rfl rfl ?_
      refine E_goto (t := 59) rfl rfl ?_
      exact E_iret rfl rfl
    refine E_callV (v := some (.int (-1))) (As := [.ref 65, .int a1, .int a2, .int 40, .int 0]) (r0 := []) (cs2 := (w0.set 48 (.inl [0, 1, 0, 0, 0, 0, 0, 0]))) rfl rfl rfl (Nat.le_of_ble_eq_true rfl) rfl rfl e28 (by decide) rfl ?_
    refine E_istore (L2 := [some (.ref 65), some (.int a1), some (.int a2), some (.int a3), some (.int a4), some (.int (-1)), none, none, none, none, none, none]) rfl rfl ?_
    refine E_iconst (x := 0) rfl (by decide) ?_
    refine E_istore (L2 := [some (.ref 65), some (.int a1), some (.int a2), some (.int a3), some (.int a4), some (.int (-1)), some (.int 0), none, none, none, none, none]) rfl rfl ?_
    refine E_iload rfl rfl ?_
    refine E_iload_n rfl rfl ?_
    refine E_ic (t := 80) (b := false) rfl rfl ((cn_ge (by decide : (0 : Int32).toInt = 0) (rfl : (a2).toInt = (a2).toInt)).trans (decide_eq_false (by omega))) ?_
    refine E_iload rfl rfl ?_
    refine E_if (t := 80) (b := true) rfl rfl (by decide) ?_
    refine E_iload rfl rfl ?_
    refine E_if (t := 92) (b := false) rfl rfl (by decide) ?_
    refine E_aload_n rfl rfl ?_
    refine E_iload rfl rfl ?_
    refine E_callV (v := some (.int (-11))) (As := [.ref 65, .int (-1)]) (r0 := []) (cs2 := ((w0.set 48 (.inl [0, 1, 0, 0, 0, 0, 0, 0])).set 66 (.inl [0, 1, 0, 0, 0, 0, 0, 0]))) rfl rfl rfl (Nat.le_of_ble_eq_true rfl) rfl rfl c247_X6_noTen (by decide) (by simp only [List.length_set]) ?_
    exact E_iret rfl rfl, (by simp only [List.length_set]; rfl), (by simp only [List.length_set]; rfl), ((ab_szs rfl).trans ((ab_szs rfl).trans rfl)), fun _ => rfl⟩
theorem f_costs_83 (a1 a2 a3 a4 : Int32) (ha2h : a2.toInt ≤ 0) (ha3l : (8 : Int) ≤ a3.toInt) : p1_P 6 100 4 188 [.ref 0, .int a1, .int a2, .int a3, .int a4] [.ref 65, .int a1, .int a2, .int a3, .int a4] :=
  ⟨(-11), (w0.set 48 (.inl [0, 1, 0, 0, 0, 0, 0, 0])), ((w0.set 48 (.inl [0, 1, 0, 0, 0, 0, 0, 0])).set 66 (.inl [0, 1, 0, 0, 0, 0, 0, 0])), by
    refine Ef.in (md := mX5_costs) (L := [some (.ref 0), some (.int a1), some (.int a2), some (.int a3), some (.int a4), none, none, none, none]) rfl (Nat.le_of_ble_eq_true rfl) rfl ?_
    refine E_iload_n rfl rfl ?_
    have e2 : Ev ab_Z0 1 47 [.int a3] w0 (some (.int 0), w0) := by
      refine Ef.in (md := mX4_isWish) (L := [some (.int a3)]) rfl (Nat.le_of_ble_eq_true rfl) rfl ?_
      refine E_iload_n rfl rfl ?_
      refine E_if (t := 14) (b := false) rfl rfl ((cn_lt (rfl : (a3).toInt = (a3).toInt) (by decide : (0 : Int32).toInt = 0)).trans (decide_eq_false (by omega))) ?_
      refine E_iload_n rfl rfl ?_
      refine E_bipush (x := 8) rfl (by decide) ?_
      refine E_ic (t := 14) (b := true) rfl rfl ((cn_ge (rfl : (a3).toInt = (a3).toInt) (by decide : (8 : Int32).toInt = 8)).trans (decide_eq_true (by omega))) ?_
      refine E_iconst (x := 0) rfl (by decide) ?_
      exact E_iret rfl rfl
    refine E_callS (v := some (.int 0)) (As := [.int a3]) (r0 := []) (cs2 := w0) rfl rfl rfl (Nat.le_of_ble_eq_true rfl) rfl e2 (by decide) rfl ?_
    refine E_if (t := 31) (b := true) rfl rfl (by decide) ?_
    refine E_iconst (x := 1) rfl (by decide) ?_
    refine E_istore (L2 := [some (.ref 0), some (.int a1), some (.int a2), some (.int a3), some (.int a4), some (.int 1), none, none, none]) rfl rfl ?_
    refine E_iload rfl rfl ?_
    refine E_if (t := 56) (b := true) rfl rfl (by decide) ?_
    refine E_iload rfl rfl ?_
    refine E_if (t := 71) (b := false) rfl rfl (by decide) ?_
    refine E_aload_n rfl rfl ?_
    refine E_iload rfl rfl ?_
    refine E_callV (v := some (.int (-1))) (As := [.ref 0, .int 1]) (r0 := []) (cs2 := (w0.set 48 (.inl [0, 1, 0, 0, 0, 0, 0, 0]))) rfl rfl rfl (Nat.le_of_ble_eq_true rfl) rfl rfl c1_X5_refuse (by decide) (by simp only [List.length_set]) ?_
    refine E_bipush (x := 10) rfl (by decide) ?_
    refine E_isub (z := (-11)) rfl (by decide) ?_
    exact E_iret rfl rfl, by
    refine Ef.in (md := mX6_costs) (L := [some (.ref 65), some (.int a1), some (.int a2), some (.int a3), some (.int a4), none, none, none, none, none, none, none]) rfl (Nat.le_of_ble_eq_true rfl) rfl ?_
    refine E_aload_n rfl rfl ?_
    refine E_iload_n rfl rfl ?_
    refine E_iconst (x := 0) rfl (by decide) ?_
    refine E_bipush (x := 7) rfl (by decide) ?_
    have e5 : Ev ab_Z0 1 134 [.ref 65, .int a3, .int 0, .int 7] (w0.set 48 (.inl [0, 1, 0, 0, 0, 0, 0, 0])) (some (.int 0), (w0.set 48 (.inl [0, 1, 0, 0, 0, 0, 0, 0]))) := by
      refine Ef.in (md := mX6_isFrom) (L := [some (.ref 65), some (.int a3), some (.int 0), some (.int 7)]) rfl (Nat.le_of_ble_eq_true rfl) rfl ?_
      refine E_iload_n rfl rfl ?_
      refine E_iload_n rfl rfl ?_
      refine E_ic (t := 14) (b := false) rfl rfl ((cn_lt (rfl : (a3).toInt = (a3).toInt) (by decide : (0 : Int32).toInt = 0)).trans (decide_eq_false (by omega))) ?_
      refine E_iload_n rfl rfl ?_
      refine E_iload_n rfl rfl ?_
      refine E_ic (t := 14) (b := true) rfl rfl ((cn_gt (rfl : (a3).toInt = (a3).toInt) (by decide : (7 : Int32).toInt = 7)).trans (decide_eq_true (by omega))) ?_
      refine E_iconst (x := 0) rfl (by decide) ?_
      exact E_iret rfl rfl
    refine E_callV (v := some (.int 0)) (As := [.ref 65, .int a3, .int 0, .int 7]) (r0 := []) (cs2 := (w0.set 48 (.inl [0, 1, 0, 0, 0, 0, 0, 0]))) rfl rfl rfl (Nat.le_of_ble_eq_true rfl) rfl rfl e5 (by decide) rfl ?_
    refine E_if (t := 15) (b := false) rfl rfl (by decide) ?_
    refine E_iconst (x := (-1)) rfl (by decide) ?_
    refine E_goto (t := 39) rfl rfl ?_
    refine E_istore (L2 := [some (.ref 65), some (.int a1), some (.int a2), some (.int a3), some (.int a4), some (.int (-1)), none, none, none, none, none, none]) rfl rfl ?_
    refine E_iconst (x := 0) rfl (by decide) ?_
    refine E_istore (L2 := [some (.ref 65), some (.int a1), some (.int a2), some (.int a3), some (.int a4), some (.int (-1)), some (.int 0), none, none, none, none, none]) rfl rfl ?_
    refine E_iload rfl rfl ?_
    refine E_iload_n rfl rfl ?_
    refine E_ic (t := 80) (b := true) rfl rfl ((cn_ge (by decide : (0 : Int32).toInt = 0) (rfl : (a2).toInt = (a2).toInt)).trans (decide_eq_true (by omega))) ?_
    refine E_iload rfl rfl ?_
    refine E_if (t := 92) (b := false) rfl rfl (by decide) ?_
    refine E_aload_n rfl rfl ?_
    refine E_iload rfl rfl ?_
    refine E_callV (v := some (.int (-11))) (As := [.ref 65, .int (-1)]) (r0 := []) (cs2 := ((w0.set 48 (.inl [0, 1, 0, 0, 0, 0, 0, 0])).set 66 (.inl [0, 1, 0, 0, 0, 0, 0, 0]))) rfl rfl rfl (Nat.le_of_ble_eq_true rfl) rfl rfl c247_X6_noTen (by decide) (by simp only [List.length_set]) ?_
    exact E_iret rfl rfl, (by simp only [List.length_set]; rfl), (by simp only [List.length_set]; rfl), ((ab_szs rfl).trans ((ab_szs rfl).trans rfl)), fun _ => rfl⟩
theorem f_costs_84 (a1 a2 a3 a4 : Int32) (ha2l : (1 : Int) ≤ a2.toInt) (ha3l : (8 : Int) ≤ a3.toInt) : p1_P 6 100 4 188 [.ref 0, .int a1, .int a2, .int a3, .int a4] [.ref 65, .int a1, .int a2, .int a3, .int a4] :=
  ⟨(-11), (w0.set 48 (.inl [0, 1, 0, 0, 0, 0, 0, 0])), ((w0.set 48 (.inl [0, 1, 0, 0, 0, 0, 0, 0])).set 66 (.inl [0, 1, 0, 0, 0, 0, 0, 0])), by
    refine Ef.in (md := mX5_costs) (L := [some (.ref 0), some (.int a1), some (.int a2), some (.int a3), some (.int a4), none, none, none, none]) rfl (Nat.le_of_ble_eq_true rfl) rfl ?_
    refine E_iload_n rfl rfl ?_
    have e2 : Ev ab_Z0 1 47 [.int a3] w0 (some (.int 0), w0) := by
      refine Ef.in (md := mX4_isWish) (L := [some (.int a3)]) rfl (Nat.le_of_ble_eq_true rfl) rfl ?_
      refine E_iload_n rfl rfl ?_
      refine E_if (t := 14) (b := false) rfl rfl ((cn_lt (rfl : (a3).toInt = (a3).toInt) (by decide : (0 : Int32).toInt = 0)).trans (decide_eq_false (by omega))) ?_
      refine E_iload_n rfl rfl ?_
      refine E_bipush (x := 8) rfl (by decide) ?_
      refine E_ic (t := 14) (b := true) rfl rfl ((cn_ge (rfl : (a3).toInt = (a3).toInt) (by decide : (8 : Int32).toInt = 8)).trans (decide_eq_true (by omega))) ?_
      refine E_iconst (x := 0) rfl (by decide) ?_
      exact E_iret rfl rfl
    refine E_callS (v := some (.int 0)) (As := [.int a3]) (r0 := []) (cs2 := w0) rfl rfl rfl (Nat.le_of_ble_eq_true rfl) rfl e2 (by decide) rfl ?_
    refine E_if (t := 31) (b := true) rfl rfl (by decide) ?_
    refine E_iconst (x := 1) rfl (by decide) ?_
    refine E_istore (L2 := [some (.ref 0), some (.int a1), some (.int a2), some (.int a3), some (.int a4), some (.int 1), none, none, none]) rfl rfl ?_
    refine E_iload rfl rfl ?_
    refine E_if (t := 56) (b := true) rfl rfl (by decide) ?_
    refine E_iload rfl rfl ?_
    refine E_if (t := 71) (b := false) rfl rfl (by decide) ?_
    refine E_aload_n rfl rfl ?_
    refine E_iload rfl rfl ?_
    refine E_callV (v := some (.int (-1))) (As := [.ref 0, .int 1]) (r0 := []) (cs2 := (w0.set 48 (.inl [0, 1, 0, 0, 0, 0, 0, 0]))) rfl rfl rfl (Nat.le_of_ble_eq_true rfl) rfl rfl c1_X5_refuse (by decide) (by simp only [List.length_set]) ?_
    refine E_bipush (x := 10) rfl (by decide) ?_
    refine E_isub (z := (-11)) rfl (by decide) ?_
    exact E_iret rfl rfl, by
    refine Ef.in (md := mX6_costs) (L := [some (.ref 65), some (.int a1), some (.int a2), some (.int a3), some (.int a4), none, none, none, none, none, none, none]) rfl (Nat.le_of_ble_eq_true rfl) rfl ?_
    refine E_aload_n rfl rfl ?_
    refine E_iload_n rfl rfl ?_
    refine E_iconst (x := 0) rfl (by decide) ?_
    refine E_bipush (x := 7) rfl (by decide) ?_
    have e5 : Ev ab_Z0 1 134 [.ref 65, .int a3, .int 0, .int 7] (w0.set 48 (.inl [0, 1, 0, 0, 0, 0, 0, 0])) (some (.int 0), (w0.set 48 (.inl [0, 1, 0, 0, 0, 0, 0, 0]))) := by
      refine Ef.in (md := mX6_isFrom) (L := [some (.ref 65), some (.int a3), some (.int 0), some (.int 7)]) rfl (Nat.le_of_ble_eq_true rfl) rfl ?_
      refine E_iload_n rfl rfl ?_
      refine E_iload_n rfl rfl ?_
      refine E_ic (t := 14) (b := false) rfl rfl ((cn_lt (rfl : (a3).toInt = (a3).toInt) (by decide : (0 : Int32).toInt = 0)).trans (decide_eq_false (by omega))) ?_
      refine E_iload_n rfl rfl ?_
      refine E_iload_n rfl rfl ?_
      refine E_ic (t := 14) (b := true) rfl rfl ((cn_gt (rfl : (a3).toInt = (a3).toInt) (by decide : (7 : Int32).toInt = 7)).trans (decide_eq_true (by omega))) ?_
      refine E_iconst (x := 0) rfl (by decide) ?_
      exact E_iret rfl rfl
    refine E_callV (v := some (.int 0)) (As := [.ref 65, .int a3, .int 0, .int 7]) (r0 := []) (cs2 := (w0.set 48 (.inl [0, 1, 0, 0, 0, 0, 0, 0]))) rfl rfl rfl (Nat.le_of_ble_eq_true rfl) rfl rfl e5 (by decide) rfl ?_
    refine E_if (t := 15) (b := false) rfl rfl (by decide) ?_
    refine E_iconst (x := (-1)) rfl (by decide) ?_
    refine E_goto (t := 39) rfl rfl ?_
    refine E_istore (L2 := [some (.ref 65), some (.int a1), some (.int a2), some (.int a3), some (.int a4), some (.int (-1)), none, none, none, none, none, none]) rfl rfl ?_
    refine E_iconst (x := 0) rfl (by decide) ?_
    refine E_istore (L2 := [some (.ref 65), some (.int a1), some (.int a2), some (.int a3), some (.int a4), some (.int (-1)), some (.int 0), none, none, none, none, none]) rfl rfl ?_
    refine E_iload rfl rfl ?_
    refine E_iload_n rfl rfl ?_
    refine E_ic (t := 80) (b := false) rfl rfl ((cn_ge (by decide : (0 : Int32).toInt = 0) (rfl : (a2).toInt = (a2).toInt)).trans (decide_eq_false (by omega))) ?_
    refine E_iload rfl rfl ?_
    refine E_if (t := 80) (b := true) rfl rfl (by decide) ?_
    refine E_iload rfl rfl ?_
    refine E_if (t := 92) (b := false) rfl rfl (by decide) ?_
    refine E_aload_n rfl rfl ?_
    refine E_iload rfl rfl ?_
    refine E_callV (v := some (.int (-11))) (As := [.ref 65, .int (-1)]) (r0 := []) (cs2 := ((w0.set 48 (.inl [0, 1, 0, 0, 0, 0, 0, 0])).set 66 (.inl [0, 1, 0, 0, 0, 0, 0, 0]))) rfl rfl rfl (Nat.le_of_ble_eq_true rfl) rfl rfl c247_X6_noTen (by decide) (by simp only [List.length_set]) ?_
    exact E_iret rfl rfl, (by simp only [List.length_set]; rfl), (by simp only [List.length_set]; rfl), ((ab_szs rfl).trans ((ab_szs rfl).trans rfl)), fun _ => rfl⟩
theorem f_costs (a1 a2 a3 a4 : Int32) : p1_P 6 100 4 188 [.ref 0, .int a1, .int a2, .int a3, .int a4] [.ref 65, .int a1, .int a2, .int a3, .int a4] := by
  rcases ab_ltge a3.toInt (0) with h | h
  · rcases ab_ltge a2.toInt (1) with h | h
    · exact f_costs_1 a1 a2 a3 a4 (by omega) (by omega)
    exact f_costs_2 a1 a2 a3 a4 (by omega) (by omega)
  rcases ab_ltge a3.toInt (8) with h | h
  · rcases ab_ltge a4.toInt (0) with h | h
    · rcases ab_ltge a1.toInt (0) with h | h
      · rcases ab_ltge a2.toInt (1) with h | h
        · exact f_costs_3 a1 a2 a3 a4 (by omega) (by omega) (by omega) (by omega) (by omega)
        exact f_costs_4 a1 a2 a3 a4 (by omega) (by omega) (by omega) (by omega) (by omega)
      rcases ab_ltge a1.toInt (8) with h | h
      · rcases ab_ltge a1.toInt (1) with h | h
        · obtain rfl : a1 = 0 := Int32.toInt_inj.mp (by rw [show ((0 : Int32).toInt = 0) by decide]; omega)
          rcases ab_ltge a2.toInt (1) with h | h
          · exact f_costs_5 a2 a3 a4 (by omega) (by omega) (by omega) (by omega)
          exact f_costs_6 a2 a3 a4 (by omega) (by omega) (by omega) (by omega)
        rcases ab_ltge a1.toInt (2) with h | h
        · obtain rfl : a1 = 1 := Int32.toInt_inj.mp (by rw [show ((1 : Int32).toInt = 1) by decide]; omega)
          rcases ab_ltge a2.toInt (1) with h | h
          · exact f_costs_7 a2 a3 a4 (by omega) (by omega) (by omega) (by omega)
          exact f_costs_8 a2 a3 a4 (by omega) (by omega) (by omega) (by omega)
        rcases ab_ltge a1.toInt (3) with h | h
        · obtain rfl : a1 = 2 := Int32.toInt_inj.mp (by rw [show ((2 : Int32).toInt = 2) by decide]; omega)
          rcases ab_ltge a2.toInt (1) with h | h
          · exact f_costs_9 a2 a3 a4 (by omega) (by omega) (by omega) (by omega)
          exact f_costs_10 a2 a3 a4 (by omega) (by omega) (by omega) (by omega)
        rcases ab_ltge a1.toInt (4) with h | h
        · obtain rfl : a1 = 3 := Int32.toInt_inj.mp (by rw [show ((3 : Int32).toInt = 3) by decide]; omega)
          rcases ab_ltge a2.toInt (1) with h | h
          · exact f_costs_11 a2 a3 a4 (by omega) (by omega) (by omega) (by omega)
          exact f_costs_12 a2 a3 a4 (by omega) (by omega) (by omega) (by omega)
        rcases ab_ltge a1.toInt (5) with h | h
        · obtain rfl : a1 = 4 := Int32.toInt_inj.mp (by rw [show ((4 : Int32).toInt = 4) by decide]; omega)
          rcases ab_ltge a2.toInt (1) with h | h
          · exact f_costs_13 a2 a3 a4 (by omega) (by omega) (by omega) (by omega)
          exact f_costs_14 a2 a3 a4 (by omega) (by omega) (by omega) (by omega)
        rcases ab_ltge a1.toInt (6) with h | h
        · obtain rfl : a1 = 5 := Int32.toInt_inj.mp (by rw [show ((5 : Int32).toInt = 5) by decide]; omega)
          rcases ab_ltge a2.toInt (1) with h | h
          · exact f_costs_15 a2 a3 a4 (by omega) (by omega) (by omega) (by omega)
          exact f_costs_16 a2 a3 a4 (by omega) (by omega) (by omega) (by omega)
        rcases ab_ltge a1.toInt (7) with h | h
        · obtain rfl : a1 = 6 := Int32.toInt_inj.mp (by rw [show ((6 : Int32).toInt = 6) by decide]; omega)
          rcases ab_ltge a2.toInt (1) with h | h
          · exact f_costs_17 a2 a3 a4 (by omega) (by omega) (by omega) (by omega)
          exact f_costs_18 a2 a3 a4 (by omega) (by omega) (by omega) (by omega)
        obtain rfl : a1 = 7 := Int32.toInt_inj.mp (by rw [show ((7 : Int32).toInt = 7) by decide]; omega)
        rcases ab_ltge a2.toInt (1) with h | h
        · exact f_costs_19 a2 a3 a4 (by omega) (by omega) (by omega) (by omega)
        exact f_costs_20 a2 a3 a4 (by omega) (by omega) (by omega) (by omega)
      rcases ab_ltge a2.toInt (1) with h | h
      · exact f_costs_21 a1 a2 a3 a4 (by omega) (by omega) (by omega) (by omega) (by omega)
      exact f_costs_22 a1 a2 a3 a4 (by omega) (by omega) (by omega) (by omega) (by omega)
    rcases ab_ltge a4.toInt (1) with h | h
    · obtain rfl : a4 = 0 := Int32.toInt_inj.mp (by rw [show ((0 : Int32).toInt = 0) by decide]; omega)
      rcases ab_ltge a1.toInt (0) with h | h
      · rcases ab_ltge a2.toInt (1) with h | h
        · exact f_costs_23 a1 a2 a3 (by omega) (by omega) (by omega) (by omega)
        exact f_costs_24 a1 a2 a3 (by omega) (by omega) (by omega) (by omega)
      rcases ab_ltge a1.toInt (8) with h | h
      · rcases ab_ltge a1.toInt (1) with h | h
        · obtain rfl : a1 = 0 := Int32.toInt_inj.mp (by rw [show ((0 : Int32).toInt = 0) by decide]; omega)
          rcases ab_ltge a2.toInt (1) with h | h
          · exact f_costs_25 a2 a3 (by omega) (by omega) (by omega)
          exact f_costs_26 a2 a3 (by omega) (by omega) (by omega)
        rcases ab_ltge a1.toInt (2) with h | h
        · obtain rfl : a1 = 1 := Int32.toInt_inj.mp (by rw [show ((1 : Int32).toInt = 1) by decide]; omega)
          rcases ab_ltge a2.toInt (1) with h | h
          · exact f_costs_27 a2 a3 (by omega) (by omega) (by omega)
          exact f_costs_28 a2 a3 (by omega) (by omega) (by omega)
        rcases ab_ltge a1.toInt (3) with h | h
        · obtain rfl : a1 = 2 := Int32.toInt_inj.mp (by rw [show ((2 : Int32).toInt = 2) by decide]; omega)
          rcases ab_ltge a2.toInt (1) with h | h
          · exact f_costs_29 a2 a3 (by omega) (by omega) (by omega)
          exact f_costs_30 a2 a3 (by omega) (by omega) (by omega)
        rcases ab_ltge a1.toInt (4) with h | h
        · obtain rfl : a1 = 3 := Int32.toInt_inj.mp (by rw [show ((3 : Int32).toInt = 3) by decide]; omega)
          rcases ab_ltge a2.toInt (1) with h | h
          · exact f_costs_31 a2 a3 (by omega) (by omega) (by omega)
          exact f_costs_32 a2 a3 (by omega) (by omega) (by omega)
        rcases ab_ltge a1.toInt (5) with h | h
        · obtain rfl : a1 = 4 := Int32.toInt_inj.mp (by rw [show ((4 : Int32).toInt = 4) by decide]; omega)
          rcases ab_ltge a2.toInt (1) with h | h
          · exact f_costs_33 a2 a3 (by omega) (by omega) (by omega)
          exact f_costs_34 a2 a3 (by omega) (by omega) (by omega)
        rcases ab_ltge a1.toInt (6) with h | h
        · obtain rfl : a1 = 5 := Int32.toInt_inj.mp (by rw [show ((5 : Int32).toInt = 5) by decide]; omega)
          rcases ab_ltge a2.toInt (1) with h | h
          · exact f_costs_35 a2 a3 (by omega) (by omega) (by omega)
          exact f_costs_36 a2 a3 (by omega) (by omega) (by omega)
        rcases ab_ltge a1.toInt (7) with h | h
        · obtain rfl : a1 = 6 := Int32.toInt_inj.mp (by rw [show ((6 : Int32).toInt = 6) by decide]; omega)
          rcases ab_ltge a2.toInt (1) with h | h
          · exact f_costs_37 a2 a3 (by omega) (by omega) (by omega)
          exact f_costs_38 a2 a3 (by omega) (by omega) (by omega)
        obtain rfl : a1 = 7 := Int32.toInt_inj.mp (by rw [show ((7 : Int32).toInt = 7) by decide]; omega)
        rcases ab_ltge a2.toInt (1) with h | h
        · exact f_costs_39 a2 a3 (by omega) (by omega) (by omega)
        exact f_costs_40 a2 a3 (by omega) (by omega) (by omega)
      rcases ab_ltge a2.toInt (1) with h | h
      · exact f_costs_41 a1 a2 a3 (by omega) (by omega) (by omega) (by omega)
      exact f_costs_42 a1 a2 a3 (by omega) (by omega) (by omega) (by omega)
    rcases ab_ltge a4.toInt (2) with h | h
    · obtain rfl : a4 = 1 := Int32.toInt_inj.mp (by rw [show ((1 : Int32).toInt = 1) by decide]; omega)
      rcases ab_ltge a1.toInt (0) with h | h
      · rcases ab_ltge a2.toInt (1) with h | h
        · exact f_costs_43 a1 a2 a3 (by omega) (by omega) (by omega) (by omega)
        exact f_costs_44 a1 a2 a3 (by omega) (by omega) (by omega) (by omega)
      rcases ab_ltge a1.toInt (8) with h | h
      · rcases ab_ltge a1.toInt (1) with h | h
        · obtain rfl : a1 = 0 := Int32.toInt_inj.mp (by rw [show ((0 : Int32).toInt = 0) by decide]; omega)
          rcases ab_ltge a2.toInt (1) with h | h
          · exact f_costs_45 a2 a3 (by omega) (by omega) (by omega)
          exact f_costs_46 a2 a3 (by omega) (by omega) (by omega)
        rcases ab_ltge a1.toInt (2) with h | h
        · obtain rfl : a1 = 1 := Int32.toInt_inj.mp (by rw [show ((1 : Int32).toInt = 1) by decide]; omega)
          rcases ab_ltge a2.toInt (1) with h | h
          · exact f_costs_47 a2 a3 (by omega) (by omega) (by omega)
          exact f_costs_48 a2 a3 (by omega) (by omega) (by omega)
        rcases ab_ltge a1.toInt (3) with h | h
        · obtain rfl : a1 = 2 := Int32.toInt_inj.mp (by rw [show ((2 : Int32).toInt = 2) by decide]; omega)
          rcases ab_ltge a2.toInt (1) with h | h
          · exact f_costs_49 a2 a3 (by omega) (by omega) (by omega)
          exact f_costs_50 a2 a3 (by omega) (by omega) (by omega)
        rcases ab_ltge a1.toInt (4) with h | h
        · obtain rfl : a1 = 3 := Int32.toInt_inj.mp (by rw [show ((3 : Int32).toInt = 3) by decide]; omega)
          rcases ab_ltge a2.toInt (1) with h | h
          · exact f_costs_51 a2 a3 (by omega) (by omega) (by omega)
          exact f_costs_52 a2 a3 (by omega) (by omega) (by omega)
        rcases ab_ltge a1.toInt (5) with h | h
        · obtain rfl : a1 = 4 := Int32.toInt_inj.mp (by rw [show ((4 : Int32).toInt = 4) by decide]; omega)
          rcases ab_ltge a2.toInt (1) with h | h
          · exact f_costs_53 a2 a3 (by omega) (by omega) (by omega)
          exact f_costs_54 a2 a3 (by omega) (by omega) (by omega)
        rcases ab_ltge a1.toInt (6) with h | h
        · obtain rfl : a1 = 5 := Int32.toInt_inj.mp (by rw [show ((5 : Int32).toInt = 5) by decide]; omega)
          rcases ab_ltge a2.toInt (1) with h | h
          · exact f_costs_55 a2 a3 (by omega) (by omega) (by omega)
          exact f_costs_56 a2 a3 (by omega) (by omega) (by omega)
        rcases ab_ltge a1.toInt (7) with h | h
        · obtain rfl : a1 = 6 := Int32.toInt_inj.mp (by rw [show ((6 : Int32).toInt = 6) by decide]; omega)
          rcases ab_ltge a2.toInt (1) with h | h
          · exact f_costs_57 a2 a3 (by omega) (by omega) (by omega)
          exact f_costs_58 a2 a3 (by omega) (by omega) (by omega)
        obtain rfl : a1 = 7 := Int32.toInt_inj.mp (by rw [show ((7 : Int32).toInt = 7) by decide]; omega)
        rcases ab_ltge a2.toInt (1) with h | h
        · exact f_costs_59 a2 a3 (by omega) (by omega) (by omega)
        exact f_costs_60 a2 a3 (by omega) (by omega) (by omega)
      rcases ab_ltge a2.toInt (1) with h | h
      · exact f_costs_61 a1 a2 a3 (by omega) (by omega) (by omega) (by omega)
      exact f_costs_62 a1 a2 a3 (by omega) (by omega) (by omega) (by omega)
    rcases ab_ltge a1.toInt (0) with h | h
    · rcases ab_ltge a2.toInt (1) with h | h
      · exact f_costs_63 a1 a2 a3 a4 (by omega) (by omega) (by omega) (by omega) (by omega)
      exact f_costs_64 a1 a2 a3 a4 (by omega) (by omega) (by omega) (by omega) (by omega)
    rcases ab_ltge a1.toInt (8) with h | h
    · rcases ab_ltge a1.toInt (1) with h | h
      · obtain rfl : a1 = 0 := Int32.toInt_inj.mp (by rw [show ((0 : Int32).toInt = 0) by decide]; omega)
        rcases ab_ltge a2.toInt (1) with h | h
        · exact f_costs_65 a2 a3 a4 (by omega) (by omega) (by omega) (by omega)
        exact f_costs_66 a2 a3 a4 (by omega) (by omega) (by omega) (by omega)
      rcases ab_ltge a1.toInt (2) with h | h
      · obtain rfl : a1 = 1 := Int32.toInt_inj.mp (by rw [show ((1 : Int32).toInt = 1) by decide]; omega)
        rcases ab_ltge a2.toInt (1) with h | h
        · exact f_costs_67 a2 a3 a4 (by omega) (by omega) (by omega) (by omega)
        exact f_costs_68 a2 a3 a4 (by omega) (by omega) (by omega) (by omega)
      rcases ab_ltge a1.toInt (3) with h | h
      · obtain rfl : a1 = 2 := Int32.toInt_inj.mp (by rw [show ((2 : Int32).toInt = 2) by decide]; omega)
        rcases ab_ltge a2.toInt (1) with h | h
        · exact f_costs_69 a2 a3 a4 (by omega) (by omega) (by omega) (by omega)
        exact f_costs_70 a2 a3 a4 (by omega) (by omega) (by omega) (by omega)
      rcases ab_ltge a1.toInt (4) with h | h
      · obtain rfl : a1 = 3 := Int32.toInt_inj.mp (by rw [show ((3 : Int32).toInt = 3) by decide]; omega)
        rcases ab_ltge a2.toInt (1) with h | h
        · exact f_costs_71 a2 a3 a4 (by omega) (by omega) (by omega) (by omega)
        exact f_costs_72 a2 a3 a4 (by omega) (by omega) (by omega) (by omega)
      rcases ab_ltge a1.toInt (5) with h | h
      · obtain rfl : a1 = 4 := Int32.toInt_inj.mp (by rw [show ((4 : Int32).toInt = 4) by decide]; omega)
        rcases ab_ltge a2.toInt (1) with h | h
        · exact f_costs_73 a2 a3 a4 (by omega) (by omega) (by omega) (by omega)
        exact f_costs_74 a2 a3 a4 (by omega) (by omega) (by omega) (by omega)
      rcases ab_ltge a1.toInt (6) with h | h
      · obtain rfl : a1 = 5 := Int32.toInt_inj.mp (by rw [show ((5 : Int32).toInt = 5) by decide]; omega)
        rcases ab_ltge a2.toInt (1) with h | h
        · exact f_costs_75 a2 a3 a4 (by omega) (by omega) (by omega) (by omega)
        exact f_costs_76 a2 a3 a4 (by omega) (by omega) (by omega) (by omega)
      rcases ab_ltge a1.toInt (7) with h | h
      · obtain rfl : a1 = 6 := Int32.toInt_inj.mp (by rw [show ((6 : Int32).toInt = 6) by decide]; omega)
        rcases ab_ltge a2.toInt (1) with h | h
        · exact f_costs_77 a2 a3 a4 (by omega) (by omega) (by omega) (by omega)
        exact f_costs_78 a2 a3 a4 (by omega) (by omega) (by omega) (by omega)
      obtain rfl : a1 = 7 := Int32.toInt_inj.mp (by rw [show ((7 : Int32).toInt = 7) by decide]; omega)
      rcases ab_ltge a2.toInt (1) with h | h
      · exact f_costs_79 a2 a3 a4 (by omega) (by omega) (by omega) (by omega)
      exact f_costs_80 a2 a3 a4 (by omega) (by omega) (by omega) (by omega)
    rcases ab_ltge a2.toInt (1) with h | h
    · exact f_costs_81 a1 a2 a3 a4 (by omega) (by omega) (by omega) (by omega) (by omega)
    exact f_costs_82 a1 a2 a3 a4 (by omega) (by omega) (by omega) (by omega) (by omega)
  rcases ab_ltge a2.toInt (1) with h | h
  · exact f_costs_83 a1 a2 a3 a4 (by omega) (by omega)
  exact f_costs_84 a1 a2 a3 a4 (by omega) (by omega)
