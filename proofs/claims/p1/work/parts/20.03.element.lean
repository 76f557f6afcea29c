theorem c128_X6_isShelf : Ev ab_Z0 1 131 [.ref 65, .int 0] w0 (some (.int 1), w0) := by
  refine Ef.in (md := mX6_isShelf) (L := [some (.ref 65), some (.int 0)]) rfl (Nat.le_of_ble_eq_true rfl) rfl ?_
  refine E_iload_n rfl rfl ?_
  refine E_if (t := 14) (b := false) rfl rfl (by decide) ?_
  refine E_iload_n rfl rfl ?_
  refine E_bipush (x := 8) rfl (by decide) ?_
  refine E_ic (t := 14) (b := false) rfl rfl (by decide) ?_
  refine E_iconst (x := 1) rfl (by decide) ?_
  refine E_goto (t := 15) rfl rfl ?_
  exact E_iret rfl rfl
theorem c129_X6_isShelf : Ev ab_Z0 1 131 [.ref 65, .int 1] w0 (some (.int 1), w0) := by
  refine Ef.in (md := mX6_isShelf) (L := [some (.ref 65), some (.int 1)]) rfl (Nat.le_of_ble_eq_true rfl) rfl ?_
  refine E_iload_n rfl rfl ?_
  refine E_if (t := 14) (b := false) rfl rfl (by decide) ?_
  refine E_iload_n rfl rfl ?_
  refine E_bipush (x := 8) rfl (by decide) ?_
  refine E_ic (t := 14) (b := false) rfl rfl (by decide) ?_
  refine E_iconst (x := 1) rfl (by decide) ?_
  refine E_goto (t := 15) rfl rfl ?_
  exact E_iret rfl rfl
theorem c130_X6_isShelf : Ev ab_Z0 1 131 [.ref 65, .int 2] w0 (some (.int 1), w0) := by
  refine Ef.in (md := mX6_isShelf) (L := [some (.ref 65), some (.int 2)]) rfl (Nat.le_of_ble_eq_true rfl) rfl ?_
  refine E_iload_n rfl rfl ?_
  refine E_if (t := 14) (b := false) rfl rfl (by decide) ?_
  refine E_iload_n rfl rfl ?_
  refine E_bipush (x := 8) rfl (by decide) ?_
  refine E_ic (t := 14) (b := false) rfl rfl (by decide) ?_
  refine E_iconst (x := 1) rfl (by decide) ?_
  refine E_goto (t := 15) rfl rfl ?_
  exact E_iret rfl rfl
theorem c131_X6_isShelf : Ev ab_Z0 1 131 [.ref 65, .int 3] w0 (some (.int 1), w0) := by
  refine Ef.in (md := mX6_isShelf) (L := [some (.ref 65), some (.int 3)]) rfl (Nat.le_of_ble_eq_true rfl) rfl ?_
  refine E_iload_n rfl rfl ?_
  refine E_if (t := 14) (b := false) rfl rfl (by decide) ?_
  refine E_iload_n rfl rfl ?_
  refine E_bipush (x := 8) rfl (by decide) ?_
  refine E_ic (t := 14) (b := false) rfl rfl (by decide) ?_
  refine E_iconst (x := 1) rfl (by decide) ?_
  refine E_goto (t := 15) rfl rfl ?_
  exact E_iret rfl rfl
theorem c132_X6_isShelf : Ev ab_Z0 1 131 [.ref 65, .int 4] w0 (some (.int 1), w0) := by
  refine Ef.in (md := mX6_isShelf) (L := [some (.ref 65), some (.int 4)]) rfl (Nat.le_of_ble_eq_true rfl) rfl ?_
  refine E_iload_n rfl rfl ?_
  refine E_if (t := 14) (b := false) rfl rfl (by decide) ?_
  refine E_iload_n rfl rfl ?_
  refine E_bipush (x := 8) rfl (by decide) ?_
  refine E_ic (t := 14) (b := false) rfl rfl (by decide) ?_
  refine E_iconst (x := 1) rfl (by decide) ?_
  refine E_goto (t := 15) rfl rfl ?_
  exact E_iret rfl rfl
theorem c133_X6_isShelf : Ev ab_Z0 1 131 [.ref 65, .int 5] w0 (some (.int 1), w0) := by
  refine Ef.in (md := mX6_isShelf) (L := [some (.ref 65), some (.int 5)]) rfl (Nat.le_of_ble_eq_true rfl) rfl ?_
  refine E_iload_n rfl rfl ?_
  refine E_if (t := 14) (b := false) rfl rfl (by decide) ?_
  refine E_iload_n rfl rfl ?_
  refine E_bipush (x := 8) rfl (by decide) ?_
  refine E_ic (t := 14) (b := false) rfl rfl (by decide) ?_
  refine E_iconst (x := 1) rfl (by decide) ?_
  refine E_goto (t := 15) rfl rfl ?_
  exact E_iret rfl rfl
theorem c134_X6_isShelf : Ev ab_Z0 1 131 [.ref 65, .int 6] w0 (some (.int 1), w0) := by
  refine Ef.in (md := mX6_isShelf) (L := [some (.ref 65), some (.int 6)]) rfl (Nat.le_of_ble_eq_true rfl) rfl ?_
  refine E_iload_n rfl rfl ?_
  refine E_if (t := 14) (b := false) rfl rfl (by decide) ?_
  refine E_iload_n rfl rfl ?_
  refine E_bipush (x := 8) rfl (by decide) ?_
  refine E_ic (t := 14) (b := false) rfl rfl (by decide) ?_
  refine E_iconst (x := 1) rfl (by decide) ?_
  refine E_goto (t := 15) rfl rfl ?_
  exact E_iret rfl rfl
theorem c135_X6_isShelf : Ev ab_Z0 1 131 [.ref 65, .int 7] w0 (some (.int 1), w0) := by
  refine Ef.in (md := mX6_isShelf) (L := [some (.ref 65), some (.int 7)]) rfl (Nat.le_of_ble_eq_true rfl) rfl ?_
  refine E_iload_n rfl rfl ?_
  refine E_if (t := 14) (b := false) rfl rfl (by decide) ?_
  refine E_iload_n rfl rfl ?_
  refine E_bipush (x := 8) rfl (by decide) ?_
  refine E_ic (t := 14) (b := false) rfl rfl (by decide) ?_
  refine E_iconst (x := 1) rfl (by decide) ?_
  refine E_goto (t := 15) rfl rfl ?_
  exact E_iret rfl rfl
theorem f_element_1 (a1 a2 : Int32) (ha1h : a1.toInt ≤ -1) : p1_PJ 3 79 2 138 [.ref 0, .int a1, .int a2] [.ref 65, .int a1, .int a2] :=
  ⟨0, w0, w0, by
    refine Ef.in (md := mX5_element) (L := [some (.ref 0), some (.int a1), some (.int a2)]) rfl (Nat.le_of_ble_eq_true rfl) rfl ?_
    refine E_iload_n rfl rfl ?_
    have e2 : Ev ab_Z0 1 117 [.int a1] w0 (some (.int 0), w0) := by
      refine Ef.in (md := mX5_isShelf) (L := [some (.int a1)]) rfl (Nat.le_of_ble_eq_true rfl) rfl ?_
      refine E_iload_n rfl rfl ?_
      refine E_if (t := 14) (b := true) rfl rfl ((cn_lt (rfl : (a1).toInt = (a1).toInt) (by decide : (0 : Int32).toInt = 0)).trans (decide_eq_true (by omega))) ?_
      refine E_iconst (x := 0) rfl (by decide) ?_
      exact E_iret rfl rfl
    refine E_callS (v := some (.int 0)) (As := [.int a1]) (r0 := []) (cs2 := w0) rfl rfl rfl (Nat.le_of_ble_eq_true rfl) rfl e2 (by decide) rfl ?_
    refine E_if (t := 20) (b := true) rfl rfl (by decide) ?_
    refine E_lconst (x := 0) rfl (by decide) ?_
    exact E_lret rfl rfl, by
    refine Ef.in (md := mX6_element) (L := [some (.ref 65), some (.int a1), some (.int a2)]) rfl (Nat.le_of_ble_eq_true rfl) rfl ?_
    refine E_aload_n rfl rfl ?_
    refine E_iload_n rfl rfl ?_
    have e3 : Ev ab_Z0 1 131 [.ref 65, .int a1] w0 (some (.int 0), w0) := by
      refine Ef.in (md := mX6_isShelf) (L := [some (.ref 65), some (.int a1)]) rfl (Nat.le_of_ble_eq_true rfl) rfl ?_
      refine E_iload_n rfl rfl ?_
      refine E_if (t := 14) (b := true) rfl rfl ((cn_lt (rfl : (a1).toInt = (a1).toInt) (by decide : (0 : Int32).toInt = 0)).trans (decide_eq_true (by omega))) ?_
      refine E_iconst (x := 0) rfl (by decide) ?_
      exact E_iret rfl rfl
    refine E_callV (v := some (.int 0)) (As := [.ref 65, .int a1]) (r0 := []) (cs2 := w0) rfl rfl rfl (Nat.le_of_ble_eq_true rfl) rfl rfl e3 (by decide) rfl ?_
    refine E_if (t := 47) (b := true) rfl rfl (by decide) ?_
    refine E_lconst (x := 0) rfl (by decide) ?_
    exact E_lret rfl rfl, rfl, rfl, rfl, fun _ => rfl⟩
theorem f_element_2 (a2 : Int32) (ha2h : a2.toInt ≤ -1) : p1_PJ 3 79 2 138 [.ref 0, .int 0, .int a2] [.ref 65, .int 0, .int a2] :=
  ⟨0, w0, w0, by
    refine Ef.in (md := mX5_element) (L := [some (.ref 0), some (.int 0), some (.int a2)]) rfl (Nat.le_of_ble_eq_true rfl) rfl ?_
    refine E_iload_n rfl rfl ?_
    refine E_callS (v := some (.int 1)) (As := [.int 0]) (r0 := []) (cs2 := w0) rfl rfl rfl (Nat.le_of_ble_eq_true rfl) rfl c10_X5_isShelf (by decide) rfl ?_
    refine E_if (t := 20) (b := false) rfl rfl (by decide) ?_
    refine E_aload_n rfl rfl ?_
    refine E_getfield (v := .ref 31) rfl rfl rfl (by decide) rfl ?_
    refine E_iload_n rfl rfl ?_
    refine E_aaload (b := 49) (j := 0) rfl rfl (by decide) (by decide) rfl ?_
    refine E_iload_n rfl rfl ?_
    have e9 : Ev ab_Z0 2 40 [.ref 49, .int a2] w0 (some (.long 0), w0) := by
      refine Ef.in (md := mX3_whole) (L := [some (.ref 49), some (.int a2)]) rfl (Nat.le_of_ble_eq_true rfl) rfl ?_
      refine E_aload_n rfl rfl ?_
      refine E_iload_n rfl rfl ?_
      have e3 : Ev ab_Z0 1 35 [.ref 49, .int a2] w0 (some (.int 0), w0) := by
        refine Ef.in (md := mX3_hasElement) (L := [some (.ref 49), some (.int a2)]) rfl (Nat.le_of_ble_eq_true rfl) rfl ?_
        refine E_iload_n rfl rfl ?_
        refine E_if (t := 16) (b := true) rfl rfl ((cn_lt (rfl : (a2).toInt = (a2).toInt) (by decide : (0 : Int32).toInt = 0)).trans (decide_eq_true (by omega))) ?_
        refine E_iconst (x := 0) rfl (by decide) ?_
        exact E_iret rfl rfl
      refine E_callV (v := some (.int 0)) (As := [.ref 49, .int a2]) (r0 := []) (cs2 := w0) rfl rfl rfl (Nat.le_of_ble_eq_true rfl) rfl rfl e3 (by decide) rfl ?_
      refine E_if (t := 17) (b := true) rfl rfl (by decide) ?_
      refine E_lconst (x := 0) rfl (by decide) ?_
      exact E_lret rfl rfl
    refine E_callV (v := some (.long 0)) (As := [.ref 49, .int a2]) (r0 := []) (cs2 := w0) rfl rfl rfl (Nat.le_of_ble_eq_true rfl) rfl rfl e9 (by decide) rfl ?_
    refine E_goto (t := 21) rfl rfl ?_
    exact E_lret rfl rfl, by
    refine Ef.in (md := mX6_element) (L := [some (.ref 65), some (.int 0), some (.int a2)]) rfl (Nat.le_of_ble_eq_true rfl) rfl ?_
    refine E_aload_n rfl rfl ?_
    refine E_iload_n rfl rfl ?_
    refine E_callV (v := some (.int 1)) (As := [.ref 65, .int 0]) (r0 := []) (cs2 := w0) rfl rfl rfl (Nat.le_of_ble_eq_true rfl) rfl rfl c128_X6_isShelf (by decide) rfl ?_
    refine E_if (t := 47) (b := false) rfl rfl (by decide) ?_
    refine E_aload_n rfl rfl ?_
    refine E_getfield (v := .ref 76) rfl rfl rfl (by decide) rfl ?_
    refine E_iload_n rfl rfl ?_
    refine E_iaload (x := 0) (j := 0) rfl rfl (by decide) (by decide) rfl ?_
    refine E_iconst (x := 1) rfl (by decide) ?_
    refine E_ic (t := 47) (b := true) rfl rfl (by decide) ?_
    refine E_lconst (x := 0) rfl (by decide) ?_
    exact E_lret rfl rfl, rfl, rfl, rfl, fun _ => rfl⟩
theorem f_element_3 (a2 : Int32) (ha2l : (0 : Int) ≤ a2.toInt) : p1_PJ 3 79 2 138 [.ref 0, .int 0, .int a2] [.ref 65, .int 0, .int a2] :=
  ⟨0, w0, w0, by
    refine Ef.in (md := mX5_element) (L := [some (.ref 0), some (.int 0), some (.int a2)]) rfl (Nat.le_of_ble_eq_true rfl) rfl ?_
    refine E_iload_n rfl rfl ?_
    refine E_callS (v := some (.int 1)) (As := [.int 0]) (r0 := []) (cs2 := w0) rfl rfl rfl (Nat.le_of_ble_eq_true rfl) rfl c10_X5_isShelf (by decide) rfl ?_
    refine E_if (t := 20) (b := false) rfl rfl (by decide) ?_
    refine E_aload_n rfl rfl ?_
    refine E_getfield (v := .ref 31) rfl rfl rfl (by decide) rfl ?_
    refine E_iload_n rfl rfl ?_
    refine E_aaload (b := 49) (j := 0) rfl rfl (by decide) (by decide) rfl ?_
    refine E_iload_n rfl rfl ?_
    have e9 : Ev ab_Z0 2 40 [.ref 49, .int a2] w0 (some (.long 0), w0) := by
      refine Ef.in (md := mX3_whole) (L := [some (.ref 49), some (.int a2)]) rfl (Nat.le_of_ble_eq_true rfl) rfl ?_
      refine E_aload_n rfl rfl ?_
      refine E_iload_n rfl rfl ?_
      have e3 : Ev ab_Z0 1 35 [.ref 49, .int a2] w0 (some (.int 0), w0) := by
        refine Ef.in (md := mX3_hasElement) (L := [some (.ref 49), some (.int a2)]) rfl (Nat.le_of_ble_eq_true rfl) rfl ?_
        refine E_iload_n rfl rfl ?_
        refine E_if (t := 16) (b := false) rfl rfl ((cn_lt (rfl : (a2).toInt = (a2).toInt) (by decide : (0 : Int32).toInt = 0)).trans (decide_eq_false (by omega))) ?_
        refine E_iload_n rfl rfl ?_
        refine E_aload_n rfl rfl ?_
        refine E_getfield (v := .int 0) rfl rfl rfl (by decide) rfl ?_
        refine E_ic (t := 16) (b := true) rfl rfl ((cn_ge (rfl : (a2).toInt = (a2).toInt) (by decide : (0 : Int32).toInt = 0)).trans (decide_eq_true (by omega))) ?_
        refine E_iconst (x := 0) rfl (by decide) ?_
        exact E_iret rfl rfl
      refine E_callV (v := some (.int 0)) (As := [.ref 49, .int a2]) (r0 := []) (cs2 := w0) rfl rfl rfl (Nat.le_of_ble_eq_true rfl) rfl rfl e3 (by decide) rfl ?_
      refine E_if (t := 17) (b := true) rfl rfl (by decide) ?_
      refine E_lconst (x := 0) rfl (by decide) ?_
      exact E_lret rfl rfl
    refine E_callV (v := some (.long 0)) (As := [.ref 49, .int a2]) (r0 := []) (cs2 := w0) rfl rfl rfl (Nat.le_of_ble_eq_true rfl) rfl rfl e9 (by decide) rfl ?_
    refine E_goto (t := 21) rfl rfl ?_
    exact E_lret rfl rfl, by
    refine Ef.in (md := mX6_element) (L := [some (.ref 65), some (.int 0), some (.int a2)]) rfl (Nat.le_of_ble_eq_true rfl) rfl ?_
    refine E_aload_n rfl rfl ?_
    refine E_iload_n rfl rfl ?_
    refine E_callV (v := some (.int 1)) (As := [.ref 65, .int 0]) (r0 := []) (cs2 := w0) rfl rfl rfl (Nat.le_of_ble_eq_true rfl) rfl rfl c128_X6_isShelf (by decide) rfl ?_
    refine E_if (t := 47) (b := false) rfl rfl (by decide) ?_
    refine E_aload_n rfl rfl ?_
    refine E_getfield (v := .ref 76) rfl rfl rfl (by decide) rfl ?_
    refine E_iload_n rfl rfl ?_
    refine E_iaload (x := 0) (j := 0) rfl rfl (by decide) (by decide) rfl ?_
    refine E_iconst (x := 1) rfl (by decide) ?_
    refine E_ic (t := 47) (b := true) rfl rfl (by decide) ?_
    refine E_lconst (x := 0) rfl (by decide) ?_
    exact E_lret rfl rfl, rfl, rfl, rfl, fun _ => rfl⟩
theorem f_element_4 (a2 : Int32) (ha2h : a2.toInt ≤ -1) : p1_PJ 3 79 2 138 [.ref 0, .int 1, .int a2] [.ref 65, .int 1, .int a2] :=
  ⟨0, w0, w0, by
    refine Ef.in (md := mX5_element) (L := [some (.ref 0), some (.int 1), some (.int a2)]) rfl (Nat.le_of_ble_eq_true rfl) rfl ?_
    refine E_iload_n rfl rfl ?_
    refine E_callS (v := some (.int 1)) (As := [.int 1]) (r0 := []) (cs2 := w0) rfl rfl rfl (Nat.le_of_ble_eq_true rfl) rfl c12_X5_isShelf (by decide) rfl ?_
    refine E_if (t := 20) (b := false) rfl rfl (by decide) ?_
    refine E_aload_n rfl rfl ?_
    refine E_getfield (v := .ref 31) rfl rfl rfl (by decide) rfl ?_
    refine E_iload_n rfl rfl ?_
    refine E_aaload (b := 51) (j := 1) rfl rfl (by decide) (by decide) rfl ?_
    refine E_iload_n rfl rfl ?_
    have e9 : Ev ab_Z0 2 40 [.ref 51, .int a2] w0 (some (.long 0), w0) := by
      refine Ef.in (md := mX3_whole) (L := [some (.ref 51), some (.int a2)]) rfl (Nat.le_of_ble_eq_true rfl) rfl ?_
      refine E_aload_n rfl rfl ?_
      refine E_iload_n rfl rfl ?_
      have e3 : Ev ab_Z0 1 35 [.ref 51, .int a2] w0 (some (.int 0), w0) := by
        refine Ef.in (md := mX3_hasElement) (L := [some (.ref 51), some (.int a2)]) rfl (Nat.le_of_ble_eq_true rfl) rfl ?_
        refine E_iload_n rfl rfl ?_
        refine E_if (t := 16) (b := true) rfl rfl ((cn_lt (rfl : (a2).toInt = (a2).toInt) (by decide : (0 : Int32).toInt = 0)).trans (decide_eq_true (by omega))) ?_
        refine E_iconst (x := 0) rfl (by decide) ?_
        exact E_iret rfl rfl
      refine E_callV (v := some (.int 0)) (As := [.ref 51, .int a2]) (r0 := []) (cs2 := w0) rfl rfl rfl (Nat.le_of_ble_eq_true rfl) rfl rfl e3 (by decide) rfl ?_
      refine E_if (t := 17) (b := true) rfl rfl (by decide) ?_
      refine E_lconst (x := 0) rfl (by decide) ?_
      exact E_lret rfl rfl
    refine E_callV (v := some (.long 0)) (As := [.ref 51, .int a2]) (r0 := []) (cs2 := w0) rfl rfl rfl (Nat.le_of_ble_eq_true rfl) rfl rfl e9 (by decide) rfl ?_
    refine E_goto (t := 21) rfl rfl ?_
    exact E_lret rfl rfl, by
    refine Ef.in (md := mX6_element) (L := [some (.ref 65), some (.int 1), some (.int a2)]) rfl (Nat.le_of_ble_eq_true rfl) rfl ?_
    refine E_aload_n rfl rfl ?_
    refine E_iload_n rfl rfl ?_
    refine E_callV (v := some (.int 1)) (As := [.ref 65, .int 1]) (r0 := []) (cs2 := w0) rfl rfl rfl (Nat.le_of_ble_eq_true rfl) rfl rfl c129_X6_isShelf (by decide) rfl ?_
    refine E_if (t := 47) (b := false) rfl rfl (by decide) ?_
    refine E_aload_n rfl rfl ?_
    refine E_getfield (v := .ref 76) rfl rfl rfl (by decide) rfl ?_
    refine E_iload_n rfl rfl ?_
    refine E_iaload (x := 0) (j := 1) rfl rfl (by decide) (by decide) rfl ?_
    refine E_iconst (x := 1) rfl (by decide) ?_
    refine E_ic (t := 47) (b := true) rfl rfl (by decide) ?_
    refine E_lconst (x := 0) rfl (by decide) ?_
    exact E_lret rfl rfl, rfl, rfl, rfl, fun _ => rfl⟩
theorem f_element_5 (a2 : Int32) (ha2l : (0 : Int) ≤ a2.toInt) : p1_PJ 3 79 2 138 [.ref 0, .int 1, .int a2] [.ref 65, .int 1, .int a2] :=
  ⟨0, w0, w0, by
    refine Ef.in (md := mX5_element) (L := [some (.ref 0), some (.int 1), some (.int a2)]) rfl (Nat.le_of_ble_eq_true rfl) rfl ?_
    refine E_iload_n rfl rfl ?_
    refine E_callS (v := some (.int 1)) (As := [.int 1]) (r0 := []) (cs2 := w0) rfl rfl rfl (Nat.le_of_ble_eq_true rfl) rfl c12_X5_isShelf (by decide) rfl ?_
    refine E_if (t := 20) (b := false) rfl rfl (by decide) ?_
    refine E_aload_n rfl rfl ?_
    refine E_getfield (v := .ref 31) rfl rfl rfl (by decide) rfl ?_
    refine E_iload_n rfl rfl ?_
    refine E_aaload (b := 51) (j := 1) rfl rfl (by decide) (by decide) rfl ?_
    refine E_iload_n rfl rfl ?_
    have e9 : Ev ab_Z0 2 40 [.ref 51, .int a2] w0 (some (.long 0), w0) := by
      refine Ef.in (md := mX3_whole) (L := [some (.ref 51), some (.int a2)]) rfl (Nat.le_of_ble_eq_true rfl) rfl ?_
      refine E_aload_n rfl rfl ?_
      refine E_iload_n rfl rfl ?_
      have e3 : Ev ab_Z0 1 35 [.ref 51, .int a2] w0 (some (.int 0), w0) := by
        refine Ef.in (md := mX3_hasElement) (L := [some (.ref 51), some (.int a2)]) rfl (Nat.le_of_ble_eq_true rfl) rfl ?_
        refine E_iload_n rfl rfl ?_
        refine E_if (t := 16) (b := false) rfl rfl ((cn_lt (rfl : (a2).toInt = (a2).toInt) (by decide : (0 : Int32).toInt = 0)).trans (decide_eq_false (by omega))) ?_
        refine E_iload_n rfl rfl ?_
        refine E_aload_n rfl rfl ?_
        refine E_getfield (v := .int 0) rfl rfl rfl (by decide) rfl ?_
        refine E_ic (t := 16) (b := true) rfl rfl ((cn_ge (rfl : (a2).toInt = (a2).toInt) (by decide : (0 : Int32).toInt = 0)).trans (decide_eq_true (by omega))) ?_
        refine E_iconst (x := 0) rfl (by decide) ?_
        exact E_iret rfl rfl
      refine E_callV (v := some (.int 0)) (As := [.ref 51, .int a2]) (r0 := []) (cs2 := w0) rfl rfl rfl (Nat.le_of_ble_eq_true rfl) rfl rfl e3 (by decide) rfl ?_
      refine E_if (t := 17) (b := true) rfl rfl (by decide) ?_
      refine E_lconst (x := 0) rfl (by decide) ?_
      exact E_lret rfl rfl
    refine E_callV (v := some (.long 0)) (As := [.ref 51, .int a2]) (r0 := []) (cs2 := w0) rfl rfl rfl (Nat.le_of_ble_eq_true rfl) rfl rfl e9 (by decide) rfl ?_
    refine E_goto (t := 21) rfl rfl ?_
    exact E_lret rfl rfl, by
    refine Ef.in (md := mX6_element) (L := [some (.ref 65), some (.int 1), some (.int a2)]) rfl (Nat.le_of_ble_eq_true rfl) rfl ?_
    refine E_aload_n rfl rfl ?_
    refine E_iload_n rfl rfl ?_
    refine E_callV (v := some (.int 1)) (As := [.ref 65, .int 1]) (r0 := []) (cs2 := w0) rfl rfl rfl (Nat.le_of_ble_eq_true rfl) rfl rfl c129_X6_isShelf (by decide) rfl ?_
    refine E_if (t := 47) (b := false) rfl rfl (by decide) ?_
    refine E_aload_n rfl rfl ?_
    refine E_getfield (v := .ref 76) rfl rfl rfl (by decide) rfl ?_
    refine E_iload_n rfl rfl ?_
    refine E_iaload (x := 0) (j := 1) rfl rfl (by decide) (by decide) rfl ?_
    refine E_iconst (x := 1) rfl (by decide) ?_
    refine E_ic (t := 47) (b := true) rfl rfl (by decide) ?_
    refine E_lconst (x := 0) rfl (by decide) ?_
    exact E_lret rfl rfl, rfl, rfl, rfl, fun _ => rfl⟩
theorem f_element_6 (a2 : Int32) (ha2h : a2.toInt ≤ -1) : p1_PJ 3 79 2 138 [.ref 0, .int 2, .int a2] [.ref 65, .int 2, .int a2] :=
  ⟨0, w0, w0, by
    refine Ef.in (md := mX5_element) (L := [some (.ref 0), some (.int 2), some (.int a2)]) rfl (Nat.le_of_ble_eq_true rfl) rfl ?_
    refine E_iload_n rfl rfl ?_
    refine E_callS (v := some (.int 1)) (As := [.int 2]) (r0 := []) (cs2 := w0) rfl rfl rfl (Nat.le_of_ble_eq_true rfl) rfl c14_X5_isShelf (by decide) rfl ?_
    refine E_if (t := 20) (b := false) rfl rfl (by decide) ?_
    refine E_aload_n rfl rfl ?_
    refine E_getfield (v := .ref 31) rfl rfl rfl (by decide) rfl ?_
    refine E_iload_n rfl rfl ?_
    refine E_aaload (b := 53) (j := 2) rfl rfl (by decide) (by decide) rfl ?_
    refine E_iload_n rfl rfl ?_
    have e9 : Ev ab_Z0 2 40 [.ref 53, .int a2] w0 (some (.long 0), w0) := by
      refine Ef.in (md := mX3_whole) (L := [some (.ref 53), some (.int a2)]) rfl (Nat.le_of_ble_eq_true rfl) rfl ?_
      refine E_aload_n rfl rfl ?_
      refine E_iload_n rfl rfl ?_
      have e3 : Ev ab_Z0 1 35 [.ref 53, .int a2] w0 (some (.int 0), w0) := by
        refine Ef.in (md := mX3_hasElement) (L := [some (.ref 53), some (.int a2)]) rfl (Nat.le_of_ble_eq_true rfl) rfl ?_
        refine E_iload_n rfl rfl ?_
        refine E_if (t := 16) (b := true) rfl rfl ((cn_lt (rfl : (a2).toInt = (a2).toInt) (by decide : (0 : Int32).toInt = 0)).trans (decide_eq_true (by omega))) ?_
        refine E_iconst (x := 0) rfl (by decide) ?_
        exact E_iret rfl rfl
      refine E_callV (v := some (.int 0)) (As := [.ref 53, .int a2]) (r0 := []) (cs2 := w0) rfl rfl rfl (Nat.le_of_ble_eq_true rfl) rfl rfl e3 (by decide) rfl ?_
      refine E_if (t := 17) (b := true) rfl rfl (by decide) ?_
      refine E_lconst (x := 0) rfl (by decide) ?_
      exact E_lret rfl rfl
    refine E_callV (v := some (.long 0)) (As := [.ref 53, .int a2]) (r0 := []) (cs2 := w0) rfl rfl rfl (Nat.le_of_ble_eq_true rfl) rfl rfl e9 (by decide) rfl ?_
    refine E_goto (t := 21) rfl rfl ?_
    exact E_lret rfl rfl, by
    refine Ef.in (md := mX6_element) (L := [some (.ref 65), some (.int 2), some (.int a2)]) rfl (Nat.le_of_ble_eq_true rfl) rfl ?_
    refine E_aload_n rfl rfl ?_
    refine E_iload_n rfl rfl ?_
    refine E_callV (v := some (.int 1)) (As := [.ref 65, .int 2]) (r0 := []) (cs2 := w0) rfl rfl rfl (Nat.le_of_ble_eq_true rfl) rfl rfl c130_X6_isShelf (by decide) rfl ?_
    refine E_if (t := 47) (b := false) rfl rfl (by decide) ?_
    refine E_aload_n rfl rfl ?_
    refine E_getfield (v := .ref 76) rfl rfl rfl (by decide) rfl ?_
    refine E_iload_n rfl rfl ?_
    refine E_iaload (x := 0) (j := 2) rfl rfl (by decide) (by decide) rfl ?_
    refine E_iconst (x := 1) rfl (by decide) ?_
    refine E_ic (t := 47) (b := true) rfl rfl (by decide) ?_
    refine E_lconst (x := 0) rfl (by decide) ?_
    exact E_lret rfl rfl, rfl, rfl, rfl, fun _ => rfl⟩
theorem f_element_7 (a2 : Int32) (ha2l : (0 : Int) ≤ a2.toInt) : p1_PJ 3 79 2 138 [.ref 0, .int 2, .int a2] [.ref 65, .int 2, .int a2] :=
  ⟨0, w0, w0, by
    refine Ef.in (md := mX5_element) (L := [some (.ref 0), some (.int 2), some (.int a2)]) rfl (Nat.le_of_ble_eq_true rfl) rfl ?_
    refine E_iload_n rfl rfl ?_
    refine E_callS (v := some (.int 1)) (As := [.int 2]) (r0 := []) (cs2 := w0) rfl rfl rfl (Nat.le_of_ble_eq_true rfl) rfl c14_X5_isShelf (by decide) rfl ?_
    refine E_if (t := 20) (b := false) rfl rfl (by decide) ?_
    refine E_aload_n rfl rfl ?_
    refine E_getfield (v := .ref 31) rfl rfl rfl (by decide) rfl ?_
    refine E_iload_n rfl rfl ?_
    refine E_aaload (b := 53) (j := 2) rfl rfl (by decide) (by decide) rfl ?_
    refine E_iload_n rfl rfl ?_
    have e9 : Ev ab_Z0 2 40 [.ref 53, .int a2] w0 (some (.long 0), w0) := by
      refine Ef.in (md := mX3_whole) (L := [some (.ref 53), some (.int a2)]) rfl (Nat.le_of_ble_eq_true rfl) rfl ?_
      refine E_aload_n rfl rfl ?_
      refine E_iload_n rfl rfl ?_
      have e3 : Ev ab_Z0 1 35 [.ref 53, .int a2] w0 (some (.int 0), w0) := by
        refine Ef.in (md := mX3_hasElement) (L := [some (.ref 53), some (.int a2)]) rfl (Nat.le_of_ble_eq_true rfl) rfl ?_
        refine E_iload_n rfl rfl ?_
        refine E_if (t := 16) (b := false) rfl rfl ((cn_lt (rfl : (a2).toInt = (a2).toInt) (by decide : (0 : Int32).toInt = 0)).trans (decide_eq_false (by omega))) ?_
        refine E_iload_n rfl rfl ?_
        refine E_aload_n rfl rfl ?_
        refine E_getfield (v := .int 0) rfl rfl rfl (by decide) rfl ?_
        refine E_ic (t := 16) (b := true) rfl rfl ((cn_ge (rfl : (a2).toInt = (a2).toInt) (by decide : (0 : Int32).toInt = 0)).trans (decide_eq_true (by omega))) ?_
        refine E_iconst (x := 0) rfl (by decide) ?_
        exact E_iret rfl rfl
      refine E_callV (v := some (.int 0)) (As := [.ref 53, .int a2]) (r0 := []) (cs2 := w0) rfl rfl rfl (Nat.le_of_ble_eq_true rfl) rfl rfl e3 (by decide) rfl ?_
      refine E_if (t := 17) (b := true) rfl rfl (by decide) ?_
      refine E_lconst (x := 0) rfl (by decide) ?_
      exact E_lret rfl rfl
    refine E_callV (v := some (.long 0)) (As := [.ref 53, .int a2]) (r0 := []) (cs2 := w0) rfl rfl rfl (Nat.le_of_ble_eq_true rfl) rfl rfl e9 (by decide) rfl ?_
    refine E_goto (t := 21) rfl rfl ?_
    exact E_lret rfl rfl, by
    refine Ef.in (md := mX6_element) (L := [some (.ref 65), some (.int 2), some (.int a2)]) rfl (Nat.le_of_ble_eq_true rfl) rfl ?_
    refine E_aload_n rfl rfl ?_
    refine E_iload_n rfl rfl ?_
    refine E_callV (v := some (.int 1)) (As := [.ref 65, .int 2]) (r0 := []) (cs2 := w0) rfl rfl rfl (Nat.le_of_ble_eq_true rfl) rfl rfl c130_X6_isShelf (by decide) rfl ?_
    refine E_if (t := 47) (b := false) rfl rfl (by decide) ?_
    refine E_aload_n rfl rfl ?_
    refine E_getfield (v := .ref 76) rfl rfl rfl (by decide) rfl ?_
    refine E_iload_n rfl rfl ?_
    refine E_iaload (x := 0) (j := 2) rfl rfl (by decide) (by decide) rfl ?_
    refine E_iconst (x := 1) rfl (by decide) ?_
    refine E_ic (t := 47) (b := true) rfl rfl (by decide) ?_
    refine E_lconst (x := 0) rfl (by decide) ?_
    exact E_lret rfl rfl, rfl, rfl, rfl, fun _ => rfl⟩
theorem f_element_8 (a2 : Int32) (ha2h : a2.toInt ≤ -1) : p1_PJ 3 79 2 138 [.ref 0, .int 3, .int a2] [.ref 65, .int 3, .int a2] :=
  ⟨0, w0, w0, by
    refine Ef.in (md := mX5_element) (L := [some (.ref 0), some (.int 3), some (.int a2)]) rfl (Nat.le_of_ble_eq_true rfl) rfl ?_
    refine E_iload_n rfl rfl ?_
    refine E_callS (v := some (.int 1)) (As := [.int 3]) (r0 := []) (cs2 := w0) rfl rfl rfl (Nat.le_of_ble_eq_true rfl) rfl c16_X5_isShelf (by decide) rfl ?_
    refine E_if (t := 20) (b := false) rfl rfl (by decide) ?_
    refine E_aload_n rfl rfl ?_
    refine E_getfield (v := .ref 31) rfl rfl rfl (by decide) rfl ?_
    refine E_iload_n rfl rfl ?_
    refine E_aaload (b := 55) (j := 3) rfl rfl (by decide) (by decide) rfl ?_
    refine E_iload_n rfl rfl ?_
    have e9 : Ev ab_Z0 2 40 [.ref 55, .int a2] w0 (some (.long 0), w0) := by
      refine Ef.in (md := mX3_whole) (L := [some (.ref 55), some (.int a2)]) rfl (Nat.le_of_ble_eq_true rfl) rfl ?_
      refine E_aload_n rfl rfl ?_
      refine E_iload_n rfl rfl ?_
      have e3 : Ev ab_Z0 1 35 [.ref 55, .int a2] w0 (some (.int 0), w0) := by
        refine Ef.in (md := mX3_hasElement) (L := [some (.ref 55), some (.int a2)]) rfl (Nat.le_of_ble_eq_true rfl) rfl ?_
        refine E_iload_n rfl rfl ?_
        refine E_if (t := 16) (b := true) rfl rfl ((cn_lt (rfl : (a2).toInt = (a2).toInt) (by decide : (0 : Int32).toInt = 0)).trans (decide_eq_true (by omega))) ?_
        refine E_iconst (x := 0) rfl (by decide) ?_
        exact E_iret rfl rfl
      refine E_callV (v := some (.int 0)) (As := [.ref 55, .int a2]) (r0 := []) (cs2 := w0) rfl rfl rfl (Nat.le_of_ble_eq_true rfl) rfl rfl e3 (by decide) rfl ?_
      refine E_if (t := 17) (b := true) rfl rfl (by decide) ?_
      refine E_lconst (x := 0) rfl (by decide) ?_
      exact E_lret rfl rfl
    refine E_callV (v := some (.long 0)) (As := [.ref 55, .int a2]) (r0 := []) (cs2 := w0) rfl rfl rfl (Nat.le_of_ble_eq_true rfl) rfl rfl e9 (by decide) rfl ?_
    refine E_goto (t := 21) rfl rfl ?_
    exact E_lret rfl rfl, by
    refine Ef.in (md := mX6_element) (L := [some (.ref 65), some (.int 3), some (.int a2)]) rfl (Nat.le_of_ble_eq_true rfl) rfl ?_
    refine E_aload_n rfl rfl ?_
    refine E_iload_n rfl rfl ?_
    refine E_callV (v := some (.int 1)) (As := [.ref 65, .int 3]) (r0 := []) (cs2 := w0) rfl rfl rfl (Nat.le_of_ble_eq_true rfl) rfl rfl c131_X6_isShelf (by decide) rfl ?_
    refine E_if (t := 47) (b := false) rfl rfl (by decide) ?_
    refine E_aload_n rfl rfl ?_
    refine E_getfield (v := .ref 76) rfl rfl rfl (by decide) rfl ?_
    refine E_iload_n rfl rfl ?_
    refine E_iaload (x := 0) (j := 3) rfl rfl (by decide) (by decide) rfl ?_
    refine E_iconst (x := 1) rfl (by decide) ?_
    refine E_ic (t := 47) (b := true) rfl rfl (by decide) ?_
    refine E_lconst (x := 0) rfl (by decide) ?_
    exact E_lret rfl rfl, rfl, rfl, rfl, fun _ => rfl⟩
theorem f_element_9 (a2 : Int32) (ha2l : (0 : Int) ≤ a2.toInt) : p1_PJ 3 79 2 138 [.ref 0, .int 3, .int a2] [.ref 65, .int 3, .int a2] :=
  ⟨0, w0, w0, by
    refine Ef.in (md := mX5_element) (L := [some (.ref 0), some (.int 3), some (.int a2)]) rfl (Nat.le_of_ble_eq_true rfl) rfl ?_
    refine E_iload_n rfl rfl ?_
    refine E_callS (v := some (.int 1)) (As := [.int 3]) (r0 := []) (cs2 := w0) rfl rfl rfl (Nat.le_of_ble_eq_true rfl) rfl c16_X5_isShelf (by decide) rfl ?_
    refine E_if (t := 20) (b := false) rfl rfl (by decide) ?_
    refine E_aload_n rfl rfl ?_
    refine E_getfield (v := .ref 31) rfl rfl rfl (by decide) rfl ?_
    refine E_iload_n rfl rfl ?_
    refine E_aaload (b := 55) (j := 3) rfl rfl (by decide) (by decide) rfl ?_
    refine E_iload_n rfl rfl ?_
    have e9 : Ev ab_Z0 2 40 [.ref 55, .int a2] w0 (some (.long 0), w0) := by
      refine Ef.in (md := mX3_whole) (L := [some (.ref 55), some (.int a2)]) rfl (Nat.le_of_ble_eq_true rfl) rfl ?_
      refine E_aload_n rfl rfl ?_
      refine E_iload_n rfl rfl ?_
      have e3 : Ev ab_Z0 1 35 [.ref 55, .int a2] w0 (some (.int 0), w0) := by
        refine Ef.in (md := mX3_hasElement) (L := [some (.ref 55), some (.int a2)]) rfl (Nat.le_of_ble_eq_true rfl) rfl ?_
        refine E_iload_n rfl rfl ?_
        refine E_if (t := 16) (b := false) rfl rfl ((cn_lt (rfl : (a2).toInt = (a2).toInt) (by decide : (0 : Int32).toInt = 0)).trans (decide_eq_false (by omega))) ?_
        refine E_iload_n rfl rfl ?_
        refine E_aload_n rfl rfl ?_
        refine E_getfield (v := .int 0) rfl rfl rfl (by decide) rfl ?_
        refine E_ic (t := 16) (b := true) rfl rfl ((cn_ge (rfl : (a2).toInt = (a2).toInt) (by decide : (0 : Int32).toInt = 0)).trans (decide_eq_true (by omega))) ?_
        refine E_iconst (x := 0) rfl (by decide) ?_
        exact E_iret rfl rfl
      refine E_callV (v := some (.int 0)) (As := [.ref 55, .int a2]) (r0 := []) (cs2 := w0) rfl rfl rfl (Nat.le_of_ble_eq_true rfl) rfl rfl e3 (by decide) rfl ?_
      refine E_if (t := 17) (b := true) rfl rfl (by decide) ?_
      refine E_lconst (x := 0) rfl (by decide) ?_
      exact E_lret rfl rfl
    refine E_callV (v := some (.long 0)) (As := [.ref 55, .int a2]) (r0 := []) (cs2 := w0) rfl rfl rfl (Nat.le_of_ble_eq_true rfl) rfl rfl e9 (by decide) rfl ?_
    refine E_goto (t := 21) rfl rfl ?_
    exact E_lret rfl rfl, by
    refine Ef.in (md := mX6_element) (L := [some (.ref 65), some (.int 3), some (.int a2)]) rfl (Nat.le_of_ble_eq_true rfl) rfl ?_
    refine E_aload_n rfl rfl ?_
    refine E_iload_n rfl rfl ?_
    refine E_callV (v := some (.int 1)) (As := [.ref 65, .int 3]) (r0 := []) (cs2 := w0) rfl rfl rfl (Nat.le_of_ble_eq_true rfl) rfl rfl c131_X6_isShelf (by decide) rfl ?_
    refine E_if (t := 47) (b := false) rfl rfl (by decide) ?_
    refine E_aload_n rfl rfl ?_
    refine E_getfield (v := .ref 76) rfl rfl rfl (by decide) rfl ?_
    refine E_iload_n rfl rfl ?_
    refine E_iaload (x := 0) (j := 3) rfl rfl (by decide) (by decide) rfl ?_
    refine E_iconst (x := 1) rfl (by decide) ?_
    refine E_ic (t := 47) (b := true) rfl rfl (by decide) ?_
    refine E_lconst (x := 0) rfl (by decide) ?_
    exact E_lret rfl rfl, rfl, rfl, rfl, fun _ => rfl⟩
theorem f_element_10 (a2 : Int32) (ha2h : a2.toInt ≤ -1) : p1_PJ 3 79 2 138 [.ref 0, .int 4, .int a2] [.ref 65, .int 4, .int a2] :=
  ⟨0, w0, w0, by
    refine Ef.in (md := mX5_element) (L := [some (.ref 0), some (.int 4), some (.int a2)]) rfl (Nat.le_of_ble_eq_true rfl) rfl ?_
    refine E_iload_n rfl rfl ?_
    refine E_callS (v := some (.int 1)) (As := [.int 4]) (r0 := []) (cs2 := w0) rfl rfl rfl (Nat.le_of_ble_eq_true rfl) rfl c18_X5_isShelf (by decide) rfl ?_
    refine E_if (t := 20) (b := false) rfl rfl (by decide) ?_
    refine E_aload_n rfl rfl ?_
    refine E_getfield (v := .ref 31) rfl rfl rfl (by decide) rfl ?_
    refine E_iload_n rfl rfl ?_
    refine E_aaload (b := 57) (j := 4) rfl rfl (by decide) (by decide) rfl ?_
    refine E_iload_n rfl rfl ?_
    have e9 : Ev ab_Z0 2 40 [.ref 57, .int a2] w0 (some (.long 0), w0) := by
      refine Ef.in (md := mX3_whole) (L := [some (.ref 57), some (.int a2)]) rfl (Nat.le_of_ble_eq_true rfl) rfl ?_
      refine E_aload_n rfl rfl ?_
      refine E_iload_n rfl rfl ?_
      have e3 : Ev ab_Z0 1 35 [.ref 57, .int a2] w0 (some (.int 0), w0) := by
        refine Ef.in (md := mX3_hasElement) (L := [some (.ref 57), some (.int a2)]) rfl (Nat.le_of_ble_eq_true rfl) rfl ?_
        refine E_iload_n rfl rfl ?_
        refine E_if (t := 16) (b := true) rfl rfl ((cn_lt (rfl : (a2).toInt = (a2).toInt) (by decide : (0 : Int32).toInt = 0)).trans (decide_eq_true (by omega))) ?_
        refine E_iconst (x := 0) rfl (by decide) ?_
        exact E_iret rfl rfl
      refine E_callV (v := some (.int 0)) (As := [.ref 57, .int a2]) (r0 := []) (cs2 := w0) rfl rfl rfl (Nat.le_of_ble_eq_true rfl) rfl rfl e3 (by decide) rfl ?_
      refine E_if (t := 17) (b := true) rfl rfl (by decide) ?_
      refine E_lconst (x := 0) rfl (by decide) ?_
      exact E_lret rfl rfl
    refine E_callV (v := some (.long 0)) (As := [.ref 57, .int a2]) (r0 := []) (cs2 := w0) rfl rfl rfl (Nat.le_of_ble_eq_true rfl) rfl rfl e9 (by decide) rfl ?_
    refine E_goto (t := 21) rfl rfl ?_
    exact E_lret rfl rfl, by
    refine Ef.in (md := mX6_element) (L := [some (.ref 65), some (.int 4), some (.int a2)]) rfl (Nat.le_of_ble_eq_true rfl) rfl ?_
    refine E_aload_n rfl rfl ?_
    refine E_iload_n rfl rfl ?_
    refine E_callV (v := some (.int 1)) (As := [.ref 65, .int 4]) (r0 := []) (cs2 := w0) rfl rfl rfl (Nat.le_of_ble_eq_true rfl) rfl rfl c132_X6_isShelf (by decide) rfl ?_
    refine E_if (t := 47) (b := false) rfl rfl (by decide) ?_
    refine E_aload_n rfl rfl ?_
    refine E_getfield (v := .ref 76) rfl rfl rfl (by decide) rfl ?_
    refine E_iload_n rfl rfl ?_
    refine E_iaload (x := 0) (j := 4) rfl rfl (by decide) (by decide) rfl ?_
    refine E_iconst (x := 1) rfl (by decide) ?_
    refine E_ic (t := 47) (b := true) rfl rfl (by decide) ?_
    refine E_lconst (x := 0) rfl (by decide) ?_
    exact E_lret rfl rfl, rfl, rfl, rfl, fun _ => rfl⟩
theorem f_element_11 (a2 : Int32) (ha2l : (0 : Int) ≤ a2.toInt) : p1_PJ 3 79 2 138 [.ref 0, .int 4, .int a2] [.ref 65, .int 4, .int a2] :=
  ⟨0, w0, w0, by
    refine Ef.in (md := mX5_element) (L := [some (.ref 0), some (.int 4), some (.int a2)]) rfl (Nat.le_of_ble_eq_true rfl) rfl ?_
    refine E_iload_n rfl rfl ?_
    refine E_callS (v := some (.int 1)) (As := [.int 4]) (r0 := []) (cs2 := w0) rfl rfl rfl (Nat.le_of_ble_eq_true rfl) rfl c18_X5_isShelf (by decide) rfl ?_
    refine E_if (t := 20) (b := false) rfl rfl (by decide) ?_
    refine E_aload_n rfl rfl ?_
    refine E_getfield (v := .ref 31) rfl rfl rfl (by decide) rfl ?_
    refine E_iload_n rfl rfl ?_
    refine E_aaload (b := 57) (j := 4) rfl rfl (by decide) (by decide) rfl ?_
    refine E_iload_n rfl rfl ?_
    have e9 : Ev ab_Z0 2 40 [.ref 57, .int a2] w0 (some (.long 0), w0) := by
      refine Ef.in (md := mX3_whole) (L := [some (.ref 57), some (.int a2)]) rfl (Nat.le_of_ble_eq_true rfl) rfl ?_
      refine E_aload_n rfl rfl ?_
      refine E_iload_n rfl rfl ?_
      have e3 : Ev ab_Z0 1 35 [.ref 57, .int a2] w0 (some (.int 0), w0) := by
        refine Ef.in (md := mX3_hasElement) (L := [some (.ref 57), some (.int a2)]) rfl (Nat.le_of_ble_eq_true rfl) rfl ?_
        refine E_iload_n rfl rfl ?_
        refine E_if (t := 16) (b := false) rfl rfl ((cn_lt (rfl : (a2).toInt = (a2).toInt) (by decide : (0 : Int32).toInt = 0)).trans (decide_eq_false (by omega))) ?_
        refine E_iload_n rfl rfl ?_
        refine E_aload_n rfl rfl ?_
        refine E_getfield (v := .int 0) rfl rfl rfl (by decide) rfl ?_
        refine E_ic (t := 16) (b := true) rfl rfl ((cn_ge (rfl : (a2).toInt = (a2).toInt) (by decide : (0 : Int32).toInt = 0)).trans (decide_eq_true (by omega))) ?_
        refine E_iconst (x := 0) rfl (by decide) ?_
        exact E_iret rfl rfl
      refine E_callV (v := some (.int 0)) (As := [.ref 57, .int a2]) (r0 := []) (cs2 := w0) rfl rfl rfl (Nat.le_of_ble_eq_true rfl) rfl rfl e3 (by decide) rfl ?_
      refine E_if (t := 17) (b := true) rfl rfl (by decide) ?_
      refine E_lconst (x := 0) rfl (by decide) ?_
      exact E_lret rfl rfl
    refine E_callV (v := some (.long 0)) (As := [.ref 57, .int a2]) (r0 := []) (cs2 := w0) rfl rfl rfl (Nat.le_of_ble_eq_true rfl) rfl rfl e9 (by decide) rfl ?_
    refine E_goto (t := 21) rfl rfl ?_
    exact E_lret rfl rfl, by
    refine Ef.in (md := mX6_element) (L := [some (.ref 65), some (.int 4), some (.int a2)]) rfl (Nat.le_of_ble_eq_true rfl) rfl ?_
    refine E_aload_n rfl rfl ?_
    refine E_iload_n rfl rfl ?_
    refine E_callV (v := some (.int 1)) (As := [.ref 65, .int 4]) (r0 := []) (cs2 := w0) rfl rfl rfl (Nat.le_of_ble_eq_true rfl) rfl rfl c132_X6_isShelf (by decide) rfl ?_
    refine E_if (t := 47) (b := false) rfl rfl (by decide) ?_
    refine E_aload_n rfl rfl ?_
    refine E_getfield (v := .ref 76) rfl rfl rfl (by decide) rfl ?_
    refine E_iload_n rfl rfl ?_
    refine E_iaload (x := 0) (j := 4) rfl rfl (by decide) (by decide) rfl ?_
    refine E_iconst (x := 1) rfl (by decide) ?_
    refine E_ic (t := 47) (b := true) rfl rfl (by decide) ?_
    refine E_lconst (x := 0) rfl (by decide) ?_
    exact E_lret rfl rfl, rfl, rfl, rfl, fun _ => rfl⟩
theorem f_element_12 (a2 : Int32) (ha2h : a2.toInt ≤ -1) : p1_PJ 3 79 2 138 [.ref 0, .int 5, .int a2] [.ref 65, .int 5, .int a2] :=
  ⟨0, w0, w0, by
    refine Ef.in (md := mX5_element) (L := [some (.ref 0), some (.int 5), some (.int a2)]) rfl (Nat.le_of_ble_eq_true rfl) rfl ?_
    refine E_iload_n rfl rfl ?_
    refine E_callS (v := some (.int 1)) (As := [.int 5]) (r0 := []) (cs2 := w0) rfl rfl rfl (Nat.le_of_ble_eq_true rfl) rfl c20_X5_isShelf (by decide) rfl ?_
    refine E_if (t := 20) (b := false) rfl rfl (by decide) ?_
    refine E_aload_n rfl rfl ?_
    refine E_getfield (v := .ref 31) rfl rfl rfl (by decide) rfl ?_
    refine E_iload_n rfl rfl ?_
    refine E_aaload (b := 59) (j := 5) rfl rfl (by decide) (by decide) rfl ?_
    refine E_iload_n rfl rfl ?_
    have e9 : Ev ab_Z0 2 40 [.ref 59, .int a2] w0 (some (.long 0), w0) := by
      refine Ef.in (md := mX3_whole) (L := [some (.ref 59), some (.int a2)]) rfl (Nat.le_of_ble_eq_true rfl) rfl ?_
      refine E_aload_n rfl rfl ?_
      refine E_iload_n rfl rfl ?_
      have e3 : Ev ab_Z0 1 35 [.ref 59, .int a2] w0 (some (.int 0), w0) := by
        refine Ef.in (md := mX3_hasElement) (L := [some (.ref 59), some (.int a2)]) rfl (Nat.le_of_ble_eq_true rfl) rfl ?_
        refine E_iload_n rfl rfl ?_
        refine E_if (t := 16) (b := true) rfl rfl ((cn_lt (rfl : (a2).toInt = (a2).toInt) (by decide : (0 : Int32).toInt = 0)).trans (decide_eq_true (by omega))) ?_
        refine E_iconst (x := 0) rfl (by decide) ?_
        exact E_iret rfl rfl
      refine E_callV (v := some (.int 0)) (As := [.ref 59, .int a2]) (r0 := []) (cs2 := w0) rfl rfl rfl (Nat.le_of_ble_eq_true rfl) rfl rfl e3 (by decide) rfl ?_
      refine E_if (t := 17) (b := true) rfl rfl (by decide) ?_
      refine E_lconst (x := 0) rfl (by decide) ?_
      exact E_lret rfl rfl
    refine E_callV (v := some (.long 0)) (As := [.ref 59, .int a2]) (r0 := []) (cs2 := w0) rfl rfl rfl (Nat.le_of_ble_eq_true rfl) rfl rfl e9 (by decide) rfl ?_
    refine E_goto (t := 21) rfl rfl ?_
    exact E_lret rfl rfl, by
    refine Ef.in (md := mX6_element) (L := [some (.ref 65), some (.int 5), some (.int a2)]) rfl (Nat.le_of_ble_eq_true rfl) rfl ?_
    refine E_aload_n rfl rfl ?_
    refine E_iload_n rfl rfl ?_
    refine E_callV (v := some (.int 1)) (As := [.ref 65, .int 5]) (r0 := []) (cs2 := w0) rfl rfl rfl (Nat.le_of_ble_eq_true rfl) rfl rfl c133_X6_isShelf (by decide) rfl ?_
    refine E_if (t := 47) (b := false) rfl rfl (by decide) ?_
    refine E_aload_n rfl rfl ?_
    refine E_getfield (v := .ref 76) rfl rfl rfl (by decide) rfl ?_
    refine E_iload_n rfl rfl ?_
    refine E_iaload (x := 0) (j := 5) rfl rfl (by decide) (by decide) rfl ?_
    refine E_iconst (x := 1) rfl (by decide) ?_
    refine E_ic (t := 47) (b := true) rfl rfl (by decide) ?_
    refine E_lconst (x := 0) rfl (by decide) ?_
    exact E_lret rfl rfl, rfl, rfl, rfl, fun _ => rfl⟩
theorem f_element_13 (a2 : Int32) (ha2l : (0 : Int) ≤ a2.toInt) : p1_PJ 3 79 2 138 [.ref 0, .int 5, .int a2] [.ref 65, .int 5, .int a2] :=
  ⟨0, w0, w0, by
    refine Ef.in (md := mX5_element) (L := [some (.ref 0), some (.int 5), some (.int a2)]) rfl (Nat.le_of_ble_eq_true rfl) rfl ?_
    refine E_iload_n rfl rfl ?_
    refine E_callS (v := some (.int 1)) (As := [.int 5]) (r0 := []) (cs2 := w0) rfl rfl rfl (Nat.le_of_ble_eq_true rfl) rfl c20_X5_isShelf (by decide) rfl ?_
    refine E_if (t := 20) (b := false) rfl rfl (by decide) ?_
    refine E_aload_n rfl rfl ?_
    refine E_getfield (v := .ref 31) rfl rfl rfl (by decide) rfl ?_
    refine E_iload_n rfl rfl ?_
    refine E_aaload (b := 59) (j := 5) rfl rfl (by decide) (by decide) rfl ?_
    refine E_iload_n rfl rfl ?_
    have e9 : Ev ab_Z0 2 40 [.ref 59, .int a2] w0 (some (.long 0), w0) := by
      refine Ef.in (md := mX3_whole) (L := [some (.ref 59), some (.int a2)]) rfl (Nat.le_of_ble_eq_true rfl) rfl ?_
      refine E_aload_n rfl rfl ?_
      refine E_iload_n rfl rfl ?_
      have e3 : Ev ab_Z0 1 35 [.ref 59, .int a2] w0 (some (.int 0), w0) := by
        refine Ef.in (md := mX3_hasElement) (L := [some (.ref 59), some (.int a2)]) rfl (Nat.le_of_ble_eq_true rfl) rfl ?_
        refine E_iload_n rfl rfl ?_
        refine E_if (t := 16) (b := false) rfl rfl ((cn_lt (rfl : (a2).toInt = (a2).toInt) (by decide : (0 : Int32).toInt = 0)).trans (decide_eq_false (by omega))) ?_
        refine E_iload_n rfl rfl ?_
        refine E_aload_n rfl rfl ?_
        refine E_getfield (v := .int 0) rfl rfl rfl (by decide) rfl ?_
        refine E_ic (t := 16) (b := true) rfl rfl ((cn_ge (rfl : (a2).toInt = (a2).toInt) (by decide : (0 : Int32).toInt = 0)).trans (decide_eq_true (by omega))) ?_
        refine E_iconst (x := 0) rfl (by decide) ?_
        exact E_iret rfl rfl
      refine E_callV (v := some (.int 0)) (As := [.ref 59, .int a2]) (r0 := []) (cs2 := w0) rfl rfl rfl (Nat.le_of_ble_eq_true rfl) rfl rfl e3 (by decide) rfl ?_
      refine E_if (t := 17) (b := true) rfl rfl (by decide) ?_
      refine E_lconst (x := 0) rfl (by decide) ?_
      exact E_lret rfl rfl
    refine E_callV (v := some (.long 0)) (As := [.ref 59, .int a2]) (r0 := []) (cs2 := w0) rfl rfl rfl (Nat.le_of_ble_eq_true rfl) rfl rfl e9 (by decide) rfl ?_
    refine E_goto (t := 21) rfl rfl ?_
    exact E_lret rfl rfl, by
    refine Ef.in (md := mX6_element) (L := [some (.ref 65), some (.int 5), some (.int a2)]) rfl (Nat.le_of_ble_eq_true rfl) rfl ?_
    refine E_aload_n rfl rfl ?_
    refine E_iload_n rfl rfl ?_
    refine E_callV (v := some (.int 1)) (As := [.ref 65, .int 5]) (r0 := []) (cs2 := w0) rfl rfl rfl (Nat.le_of_ble_eq_true rfl) rfl rfl c133_X6_isShelf (by decide) rfl ?_
    refine E_if (t := 47) (b := false) rfl rfl (by decide) ?_
    refine E_aload_n rfl rfl ?_
    refine E_getfield (v := .ref 76) rfl rfl rfl (by decide) rfl ?_
    refine E_iload_n rfl rfl ?_
    refine E_iaload (x := 0) (j := 5) rfl rfl (by decide) (by decide) rfl ?_
    refine E_iconst (x := 1) rfl (by decide) ?_
    refine E_ic (t := 47) (b := true) rfl rfl (by decide) ?_
    refine E_lconst (x := 0) rfl (by decide) ?_
    exact E_lret rfl rfl, rfl, rfl, rfl, fun _ => rfl⟩
theorem f_element_14 (a2 : Int32) (ha2h : a2.toInt ≤ -1) : p1_PJ 3 79 2 138 [.ref 0, .int 6, .int a2] [.ref 65, .int 6, .int a2] :=
  ⟨0, w0, w0, by
    refine Ef.in (md := mX5_element) (L := [some (.ref 0), some (.int 6), some (.int a2)]) rfl (Nat.le_of_ble_eq_true rfl) rfl ?_
    refine E_iload_n rfl rfl ?_
    refine E_callS (v := some (.int 1)) (As := [.int 6]) (r0 := []) (cs2 := w0) rfl rfl rfl (Nat.le_of_ble_eq_true rfl) rfl c22_X5_isShelf (by decide) rfl ?_
    refine E_if (t := 20) (b := false) rfl rfl (by decide) ?_
    refine E_aload_n rfl rfl ?_
    refine E_getfield (v := .ref 31) rfl rfl rfl (by decide) rfl ?_
    refine E_iload_n rfl rfl ?_
    refine E_aaload (b := 61) (j := 6) rfl rfl (by decide) (by decide) rfl ?_
    refine E_iload_n rfl rfl ?_
    have e9 : Ev ab_Z0 2 40 [.ref 61, .int a2] w0 (some (.long 0), w0) := by
      refine Ef.in (md := mX3_whole) (L := [some (.ref 61), some (.int a2)]) rfl (Nat.le_of_ble_eq_true rfl) rfl ?_
      refine E_aload_n rfl rfl ?_
      refine E_iload_n rfl rfl ?_
      have e3 : Ev ab_Z0 1 35 [.ref 61, .int a2] w0 (some (.int 0), w0) := by
        refine Ef.in (md := mX3_hasElement) (L := [some (.ref 61), some (.int a2)]) rfl (Nat.le_of_ble_eq_true rfl) rfl ?_
        refine E_iload_n rfl rfl ?_
        refine E_if (t := 16) (b := true) rfl rfl ((cn_lt (rfl : (a2).toInt = (a2).toInt) (by decide : (0 : Int32).toInt = 0)).trans (decide_eq_true (by omega))) ?_
        refine E_iconst (x := 0) rfl (by decide) ?_
        exact E_iret rfl rfl
      refine E_callV (v := some (.int 0)) (As := [.ref 61, .int a2]) (r0 := []) (cs2 := w0) rfl rfl rfl (Nat.le_of_ble_eq_true rfl) rfl rfl e3 (by decide) rfl ?_
      refine E_if (t := 17) (b := true) rfl rfl (by decide) ?_
      refine E_lconst (x := 0) rfl (by decide) ?_
      exact E_lret rfl rfl
    refine E_callV (v := some (.long 0)) (As := [.ref 61, .int a2]) (r0 := []) (cs2 := w0) rfl rfl rfl (Nat.le_of_ble_eq_true rfl) rfl rfl e9 (by decide) rfl ?_
    refine E_goto (t := 21) rfl rfl ?_
    exact E_lret rfl rfl, by
    refine Ef.in (md := mX6_element) (L := [some (.ref 65), some (.int 6), some (.int a2)]) rfl (Nat.le_of_ble_eq_true rfl) rfl ?_
    refine E_aload_n rfl rfl ?_
    refine E_iload_n rfl rfl ?_
    refine E_callV (v := some (.int 1)) (As := [.ref 65, .int 6]) (r0 := []) (cs2 := w0) rfl rfl rfl (Nat.le_of_ble_eq_true rfl) rfl rfl c134_X6_isShelf (by decide) rfl ?_
    refine E_if (t := 47) (b := false) rfl rfl (by decide) ?_
    refine E_aload_n rfl rfl ?_
    refine E_getfield (v := .ref 76) rfl rfl rfl (by decide) rfl ?_
    refine E_iload_n rfl rfl ?_
    refine E_iaload (x := 0) (j := 6) rfl rfl (by decide) (by decide) rfl ?_
    refine E_iconst (x := 1) rfl (by decide) ?_
    refine E_ic (t := 47) (b := true) rfl rfl (by decide) ?_
    refine E_lconst (x := 0) rfl (by decide) ?_
    exact E_lret rfl rfl, rfl, rfl, rfl, fun _ => rfl⟩
theorem f_element_15 (a2 : Int32) (ha2l : (0 : Int) ≤ a2.toInt) : p1_PJ 3 79 2 138 [.ref 0, .int 6, .int a2] [.ref 65, .int 6, .int a2] :=
  ⟨0, w0, w0, by
    refine Ef.in (md := mX5_element) (L := [some (.ref 0), some (.int 6), some (.int a2)]) rfl (Nat.le_of_ble_eq_true rfl) rfl ?_
    refine E_iload_n rfl rfl ?_
    refine E_callS (v := some (.int 1)) (As := [.int 6]) (r0 := []) (cs2 := w0) rfl rfl rfl (Nat.le_of_ble_eq_true rfl) rfl c22_X5_isShelf (by decide) rfl ?_
    refine E_if (t := 20) (b := false) rfl rfl (by decide) ?_
    refine E_aload_n rfl rfl ?_
    refine E_getfield (v := .ref 31) rfl rfl rfl (by decide) rfl ?_
    refine E_iload_n rfl rfl ?_
    refine E_aaload (b := 61) (j := 6) rfl rfl (by decide) (by decide) rfl ?_
    refine E_iload_n rfl rfl ?_
    have e9 : Ev ab_Z0 2 40 [.ref 61, .int a2] w0 (some (.long 0), w0) := by
      refine Ef.in (md := mX3_whole) (L := [some (.ref 61), some (.int a2)]) rfl (Nat.le_of_ble_eq_true rfl) rfl ?_
      refine E_aload_n rfl rfl ?_
      refine E_iload_n rfl rfl ?_
      have e3 : Ev ab_Z0 1 35 [.ref 61, .int a2] w0 (some (.int 0), w0) := by
        refine Ef.in (md := mX3_hasElement) (L := [some (.ref 61), some (.int a2)]) rfl (Nat.le_of_ble_eq_true rfl) rfl ?_
        refine E_iload_n rfl rfl ?_
        refine E_if (t := 16) (b := false) rfl rfl ((cn_lt (rfl : (a2).toInt = (a2).toInt) (by decide : (0 : Int32).toInt = 0)).trans (decide_eq_false (by omega))) ?_
        refine E_iload_n rfl rfl ?_
        refine E_aload_n rfl rfl ?_
        refine E_getfield (v := .int 0) rfl rfl rfl (by decide) rfl ?_
        refine E_ic (t := 16) (b := true) rfl rfl ((cn_ge (rfl : (a2).toInt = (a2).toInt) (by decide : (0 : Int32).toInt = 0)).trans (decide_eq_true (by omega))) ?_
        refine E_iconst (x := 0) rfl (by decide) ?_
        exact E_iret rfl rfl
      refine E_callV (v := some (.int 0)) (As := [.ref 61, .int a2]) (r0 := []) (cs2 := w0) rfl rfl rfl (Nat.le_of_ble_eq_true rfl) rfl rfl e3 (by decide) rfl ?_
      refine E_if (t := 17) (b := true) rfl rfl (by decide) ?_
      refine E_lconst (x := 0) rfl (by decide) ?_
      exact E_lret rfl rfl
    refine E_callV (v := some (.long 0)) (As := [.ref 61, .int a2]) (r0 := []) (cs2 := w0) rfl rfl rfl (Nat.le_of_ble_eq_true rfl) rfl rfl e9 (by decide) rfl ?_
    refine E_goto (t := 21) rfl rfl ?_
    exact E_lret rfl rfl, by
    refine Ef.in (md := mX6_element) (L := [some (.ref 65), some (.int 6), some (.int a2)]) rfl (Nat.le_of_ble_eq_true rfl) rfl ?_
    refine E_aload_n rfl rfl ?_
    refine E_iload_n rfl rfl ?_
    refine E_callV (v := some (.int 1)) (As := [.ref 65, .int 6]) (r0 := []) (cs2 := w0) rfl rfl rfl (Nat.le_of_ble_eq_true rfl) rfl rfl c134_X6_isShelf (by decide) rfl ?_
    refine E_if (t := 47) (b := false) rfl rfl (by decide) ?_
    refine E_aload_n rfl rfl ?_
    refine E_getfield (v := .ref 76) rfl rfl rfl (by decide) rfl ?_
    refine E_iload_n rfl rfl ?_
    refine E_iaload (x := 0) (j := 6) rfl rfl (by decide) (by decide) rfl ?_
    refine E_iconst (x := 1) rfl (by decide) ?_
    refine E_ic (t := 47) (b := true) rfl rfl (by decide) ?_
    refine E_lconst (x := 0) rfl (by decide) ?_
    exact E_lret rfl rfl, rfl, rfl, rfl, fun _ => rfl⟩
theorem f_element_16 (a2 : Int32) (ha2h : a2.toInt ≤ -1) : p1_PJ 3 79 2 138 [.ref 0, .int 7, .int a2] [.ref 65, .int 7, .int a2] :=
  ⟨0, w0, w0, by
    refine Ef.in (md := mX5_element) (L := [some (.ref 0), some (.int 7), some (.int a2)]) rfl (Nat.le_of_ble_eq_true rfl) rfl ?_
    refine E_iload_n rfl rfl ?_
    refine E_callS (v := some (.int 1)) (As := [.int 7]) (r0 := []) (cs2 := w0) rfl rfl rfl (Nat.le_of_ble_eq_true rfl) rfl c24_X5_isShelf (by decide) rfl ?_
    refine E_if (t := 20) (b := false) rfl rfl (by decide) ?_
    refine E_aload_n rfl rfl ?_
    refine E_getfield (v := .ref 31) rfl rfl rfl (by decide) rfl ?_
    refine E_iload_n rfl rfl ?_
    refine E_aaload (b := 63) (j := 7) rfl rfl (by decide) (by decide) rfl ?_
    refine E_iload_n rfl rfl ?_
    have e9 : Ev ab_Z0 2 40 [.ref 63, .int a2] w0 (some (.long 0), w0) := by
      refine Ef.in (md := mX3_whole) (L := [some (.ref 63), some (.int a2)]) rfl (Nat.le_of_ble_eq_true rfl) rfl ?_
      refine E_aload_n rfl rfl ?_
      refine E_iload_n rfl rfl ?_
      have e3 : Ev ab_Z0 1 35 [.ref 63, .int a2] w0 (some (.int 0), w0) := by
        refine Ef.in (md := mX3_hasElement) (L := [some (.ref 63), some (.int a2)]) rfl (Nat.le_of_ble_eq_true rfl) rfl ?_
        refine E_iload_n rfl rfl ?_
        refine E_if (t := 16) (b := true) rfl rfl ((cn_lt (rfl : (a2).toInt = (a2).toInt) (by decide : (0 : Int32).toInt = 0)).trans (decide_eq_true (by omega))) ?_
        refine E_iconst (x := 0) rfl (by decide) ?_
        exact E_iret rfl rfl
      refine E_callV (v := some (.int 0)) (As := [.ref 63, .int a2]) (r0 := []) (cs2 := w0) rfl rfl rfl (Nat.le_of_ble_eq_true rfl) rfl rfl e3 (by decide) rfl ?_
      refine E_if (t := 17) (b := true) rfl rfl (by decide) ?_
      refine E_lconst (x := 0) rfl (by decide) ?_
      exact E_lret rfl rfl
    refine E_callV (v := some (.long 0)) (As := [.ref 63, .int a2]) (r0 := []) (cs2 := w0) rfl rfl rfl (Nat.le_of_ble_eq_true rfl) rfl rfl e9 (by decide) rfl ?_
    refine E_goto (t := 21) rfl rfl ?_
    exact E_lret rfl rfl, by
    refine Ef.in (md := mX6_element) (L := [some (.ref 65), some (.int 7), some (.int a2)]) rfl (Nat.le_of_ble_eq_true rfl) rfl ?_
    refine E_aload_n rfl rfl ?_
    refine E_iload_n rfl rfl ?_
    refine E_callV (v := some (.int 1)) (As := [.ref 65, .int 7]) (r0 := []) (cs2 := w0) rfl rfl rfl (Nat.le_of_ble_eq_true rfl) rfl rfl c135_X6_isShelf (by decide) rfl ?_
    refine E_if (t := 47) (b := false) rfl rfl (by decide) ?_
    refine E_aload_n rfl rfl ?_
    refine E_getfield (v := .ref 76) rfl rfl rfl (by decide) rfl ?_
    refine E_iload_n rfl rfl ?_
    refine E_iaload (x := 0) (j := 7) rfl rfl (by decide) (by decide) rfl ?_
    refine E_iconst (x := 1) rfl (by decide) ?_
    refine E_ic (t := 47) (b := true) rfl rfl (by decide) ?_
    refine E_lconst (x := 0) rfl (by decide) ?_
    exact E_lret rfl rfl, rfl, rfl, rfl, fun _ => rfl⟩
theorem f_element_17 (a2 : Int32) (ha2l : (0 : Int) ≤ a2.toInt) : p1_PJ 3 79 2 138 [.ref 0, .int 7, .int a2] [.ref 65, .int 7, .int a2] :=
  ⟨0, w0, w0, by
    refine Ef.in (md := mX5_element) (L := [some (.ref 0), some (.int 7), some (.int a2)]) rfl (Nat.le_of_ble_eq_true rfl) rfl ?_
    refine E_iload_n rfl rfl ?_
    refine E_callS (v := some (.int 1)) (As := [.int 7]) (r0 := []) (cs2 := w0) rfl rfl rfl (Nat.le_of_ble_eq_true rfl) rfl c24_X5_isShelf (by decide) rfl ?_
    refine E_if (t := 20) (b := false) rfl rfl (by decide) ?_
    refine E_aload_n rfl rfl ?_
    refine E_getfield (v := .ref 31) rfl rfl rfl (by decide) rfl ?_
    refine E_iload_n rfl rfl ?_
    refine E_aaload (b := 63) (j := 7) rfl rfl (by decide) (by decide) rfl ?_
    refine E_iload_n rfl rfl ?_
    have e9 : Ev ab_Z0 2 40 [.ref 63, .int a2] w0 (some (.long 0), w0) := by
      refine Ef.in (md := mX3_whole) (L := [some (.ref 63), some (.int a2)]) rfl (Nat.le_of_ble_eq_true rfl) rfl ?_
      refine E_aload_n rfl rfl ?_
      refine E_iload_n rfl rfl ?_
      have e3 : Ev ab_Z0 1 35 [.ref 63, .int a2] w0 (some (.int 0), w0) := by
        refine Ef.in (md := mX3_hasElement) (L := [some (.ref 63), some (.int a2)]) rfl (Nat.le_of_ble_eq_true rfl) rfl ?_
        refine E_iload_n rfl rfl ?_
        refine E_if (t := 16) (b := false) rfl rfl ((cn_lt (rfl : (a2).toInt = (a2).toInt) (by decide : (0 : Int32).toInt = 0)).trans (decide_eq_false (by omega))) ?_
        refine E_iload_n rfl rfl ?_
        refine E_aload_n rfl rfl ?_
        refine E_getfield (v := .int 0) rfl rfl rfl (by decide) rfl ?_
        refine E_ic (t := 16) (b := true) rfl rfl ((cn_ge (rfl : (a2).toInt = (a2).toInt) (by decide : (0 : Int32).toInt = 0)).trans (decide_eq_true (by omega))) ?_
        refine E_iconst (x := 0) rfl (by decide) ?_
        exact E_iret rfl rfl
      refine E_callV (v := some (.int 0)) (As := [.ref 63, .int a2]) (r0 := []) (cs2 := w0) rfl rfl rfl (Nat.le_of_ble_eq_true rfl) rfl rfl e3 (by decide) rfl ?_
      refine E_if (t := 17) (b := true) rfl rfl (by decide) ?_
      refine E_lconst (x := 0) rfl (by decide) ?_
      exact E_lret rfl rfl
    refine E_callV (v := some (.long 0)) (As := [.ref 63, .int a2]) (r0 := []) (cs2 := w0) rfl rfl rfl (Nat.le_of_ble_eq_true rfl) rfl rfl e9 (by decide) rfl ?_
    refine E_goto (t := 21) rfl rfl ?_
    exact E_lret rfl rfl, by
    refine Ef.in (md := mX6_element) (L := [some (.ref 65), some (.int 7), some (.int a2)]) rfl (Nat.le_of_ble_eq_true rfl) rfl ?_
    refine E_aload_n rfl rfl ?_
    refine E_iload_n rfl rfl ?_
    refine E_callV (v := some (.int 1)) (As := [.ref 65, .int 7]) (r0 := []) (cs2 := w0) rfl rfl rfl (Nat.le_of_ble_eq_true rfl) rfl rfl c135_X6_isShelf (by decide) rfl ?_
    refine E_if (t := 47) (b := false) rfl rfl (by decide) ?_
    refine E_aload_n rfl rfl ?_
    refine E_getfield (v := .ref 76) rfl rfl rfl (by decide) rfl ?_
    refine E_iload_n rfl rfl ?_
    refine E_iaload (x := 0) (j := 7) rfl rfl (by decide) (by decide) rfl ?_
    refine E_iconst (x := 1) rfl (by decide) ?_
    refine E_ic (t := 47) (b := true) rfl rfl (by decide) ?_
    refine E_lconst (x := 0) rfl (by decide) ?_
    exact E_lret rfl rfl, rfl, rfl, rfl, fun _ => rfl⟩
theorem f_element_18 (a1 a2 : Int32) (ha1l : (8 : Int) ≤ a1.toInt) : p1_PJ 3 79 2 138 [.ref 0, .int a1, .int a2] [.ref 65, .int a1, .int a2] :=
  ⟨0, w0, w0, by
    refine Ef.in (md := mX5_element) (L := [some (.ref 0), some (.int a1), some (.int a2)]) rfl (Nat.le_of_ble_eq_true rfl) rfl ?_
    refine E_iload_n rfl rfl ?_
    have e2 : Ev ab_Z0 1 117 [.int a1] w0 (some (.int 0), w0) := by
      refine Ef.in (md := mX5_isShelf) (L := [some (.int a1)]) rfl (Nat.le_of_ble_eq_true rfl) rfl ?_
      refine E_iload_n rfl rfl ?_
      refine E_if (t := 14) (b := false) rfl rfl ((cn_lt (rfl : (a1).toInt = (a1).toInt) (by decide : (0 : Int32).toInt = 0)).trans (decide_eq_false (by omega))) ?_
      refine E_iload_n rfl rfl ?_
      refine E_bipush (x := 8) rfl (by decide) ?_
      refine E_ic (t := 14) (b := true) rfl rfl ((cn_ge (rfl : (a1).toInt = (a1).toInt) (by decide : (8 : Int32).toInt = 8)).trans (decide_eq_true (by omega))) ?_
      refine E_iconst (x := 0) rfl (by decide) ?_
      exact E_iret rfl rfl
    refine E_callS (v := some (.int 0)) (As := [.int a1]) (r0 := []) (cs2 := w0) rfl rfl rfl (Nat.le_of_ble_eq_true rfl) rfl e2 (by decide) rfl ?_
    refine E_if (t := 20) (b := true) rfl rfl (by decide) ?_
    refine E_lconst (x := 0) rfl (by decide) ?_
    exact E_lret rfl rfl, by
    refine Ef.in (md := mX6_element) (L := [some (.ref 65), some (.int a1), some (.int a2)]) rfl (Nat.le_of_ble_eq_true rfl) rfl ?_
    refine E_aload_n rfl rfl ?_
    refine E_iload_n rfl rfl ?_
    have e3 : Ev ab_Z0 1 131 [.ref 65, .int a1] w0 (some (.int 0), w0) := by
      refine Ef.in (md := mX6_isShelf) (L := [some (.ref 65), some (.int a1)]) rfl (Nat.le_of_ble_eq_true rfl) rfl ?_
      refine E_iload_n rfl rfl ?_
      refine E_if (t := 14) (b := false) rfl rfl ((cn_lt (rfl : (a1).toInt = (a1).toInt) (by decide : (0 : Int32).toInt = 0)).trans (decide_eq_false (by omega))) ?_
      refine E_iload_n rfl rfl ?_
      refine E_bipush (x := 8) rfl (by decide) ?_
      refine E_ic (t := 14) (b := true) rfl rfl ((cn_ge (rfl : (a1).toInt = (a1).toInt) (by decide : (8 : Int32).toInt = 8)).trans (decide_eq_true (by omega))) ?_
      refine E_iconst (x := 0) rfl (by decide) ?_
      exact E_iret rfl rfl
    refine E_callV (v := some (.int 0)) (As := [.ref 65, .int a1]) (r0 := []) (cs2 := w0) rfl rfl rfl (Nat.le_of_ble_eq_true rfl) rfl rfl e3 (by decide) rfl ?_
    refine E_if (t := 47) (b := true) rfl rfl (by decide) ?_
    refine E_lconst (x := 0) rfl (by decide) ?_
    exact E_lret rfl rfl, rfl, rfl, rfl, fun _ => rfl⟩
theorem f_element (a1 a2 : Int32) : p1_PJ 3 79 2 138 [.ref 0, .int a1, .int a2] [.ref 65, .int a1, .int a2] := by
  rcases ab_ltge a1.toInt (0) with h | h
  · exact f_element_1 a1 a2 (by omega)
  rcases ab_ltge a1.toInt (8) with h | h
  · rcases ab_ltge a1.toInt (1) with h | h
    · obtain rfl : a1 = 0 := Int32.toInt_inj.mp (by rw [show ((0 : Int32).toInt = 0) by decide]; omega)
      rcases ab_ltge a2.toInt (0) with h | h
      · exact f_element_2 a2 (by omega)
      exact f_element_3 a2 (by omega)
    rcases ab_ltge a1.toInt (2) with h | h
    · obtain rfl : a1 = 1 := Int32.toInt_inj.mp (by rw [show ((1 : Int32).toInt = 1) by decide]; omega)
      rcases ab_ltge a2.toInt (0) with h | h
      · exact f_element_4 a2 (by omega)
      exact f_element_5 a2 (by omega)
    rcases ab_ltge a1.toInt (3) with h | h
    · obtain rfl : a1 = 2 := Int32.toInt_inj.mp (by rw [show ((2 : Int32).toInt = 2) by decide]; omega)
      rcases ab_ltge a2.toInt (0) with h | h
      · exact f_element_6 a2 (by omega)
      exact f_element_7 a2 (by omega)
    rcases ab_ltge a1.toInt (4) with h | h
    · obtain rfl : a1 = 3 := Int32.toInt_inj.mp (by rw [show ((3 : Int32).toInt = 3) by decide]; omega)
      rcases ab_ltge a2.toInt (0) with h | h
      · exact f_element_8 a2 (by omega)
      exact f_element_9 a2 (by omega)
    rcases ab_ltge a1.toInt (5) with h | h
    · obtain rfl : a1 = 4 := Int32.toInt_inj.mp (by rw [show ((4 : Int32).toInt = 4) by decide]; omega)
      rcases ab_ltge a2.toInt (0) with h | h
      · exact f_element_10 a2 (by omega)
      exact f_element_11 a2 (by omega)
    rcases ab_ltge a1.toInt (6) with h | h
    · obtain rfl : a1 = 5 := Int32.toInt_inj.mp (by rw [show ((5 : Int32).toInt = 5) by decide]; omega)
      rcases ab_ltge a2.toInt (0) with h | h
      · exact f_element_12 a2 (by omega)
      exact f_element_13 a2 (by omega)
    rcases ab_ltge a1.toInt (7) with h | h
    · obtain rfl : a1 = 6 := Int32.toInt_inj.mp (by rw [show ((6 : Int32).toInt = 6) by decide]; omega)
      rcases ab_ltge a2.toInt (0) with h | h
      · exact f_element_14 a2 (by omega)
      exact f_element_15 a2 (by omega)
    obtain rfl : a1 = 7 := Int32.toInt_inj.mp (by rw [show ((7 : Int32).toInt = 7) by decide]; omega)
    rcases ab_ltge a2.toInt (0) with h | h
    · exact f_element_16 a2 (by omega)
    exact f_element_17 a2 (by omega)
  exact f_element_18 a1 a2 (by omega)
