theorem c168_X5_holds : Ev ab_Z0 2 81 [.ref 0, .int 0] w0 (some (.int (-1)), w0) := by
  refine Ef.in (md := mX5_holds) (L := [some (.ref 0), some (.int 0)]) rfl (Nat.le_of_ble_eq_true rfl) rfl ?_
  refine E_iload_n rfl rfl ?_
  refine E_callS (v := some (.int 1)) (As := [.int 0]) (r0 := []) (cs2 := w0) rfl rfl rfl (Nat.le_of_ble_eq_true rfl) rfl c10_X5_isShelf (by decide) rfl ?_
  refine E_if (t := 19) (b := false) rfl rfl (by decide) ?_
  refine E_aload_n rfl rfl ?_
  refine E_getfield (v := .ref 31) rfl rfl rfl (by decide) rfl ?_
  refine E_iload_n rfl rfl ?_
  refine E_aaload (b := 49) (j := 0) rfl rfl (by decide) (by decide) rfl ?_
  refine E_getfield (v := .int (-1)) rfl rfl rfl (by decide) rfl ?_
  refine E_goto (t := 20) rfl rfl ?_
  exact E_iret rfl rfl
theorem c169_X6_holds : Ev ab_Z0 2 140 [.ref 65, .int 0] w0 (some (.int (-1)), w0) := by
  refine Ef.in (md := mX6_holds) (L := [some (.ref 65), some (.int 0)]) rfl (Nat.le_of_ble_eq_true rfl) rfl ?_
  refine E_aload_n rfl rfl ?_
  refine E_iload_n rfl rfl ?_
  refine E_callV (v := some (.int 1)) (As := [.ref 65, .int 0]) (r0 := []) (cs2 := w0) rfl rfl rfl (Nat.le_of_ble_eq_true rfl) rfl rfl c128_X6_isShelf (by decide) rfl ?_
  refine E_if (t := 17) (b := false) rfl rfl (by decide) ?_
  refine E_aload_n rfl rfl ?_
  refine E_getfield (v := .ref 76) rfl rfl rfl (by decide) rfl ?_
  refine E_iload_n rfl rfl ?_
  refine E_iaload (x := 0) (j := 0) rfl rfl (by decide) (by decide) rfl ?_
  refine E_if (t := 19) (b := false) rfl rfl (by decide) ?_
  refine E_iconst (x := (-1)) rfl (by decide) ?_
  exact E_iret rfl rfl
theorem c170_X5_holds : Ev ab_Z0 2 81 [.ref 0, .int 1] w0 (some (.int (-1)), w0) := by
  refine Ef.in (md := mX5_holds) (L := [some (.ref 0), some (.int 1)]) rfl (Nat.le_of_ble_eq_true rfl) rfl ?_
  refine E_iload_n rfl rfl ?_
  refine E_callS (v := some (.int 1)) (As := [.int 1]) (r0 := []) (cs2 := w0) rfl rfl rfl (Nat.le_of_ble_eq_true rfl) rfl c12_X5_isShelf (by decide) rfl ?_
  refine E_if (t := 19) (b := false) rfl rfl (by decide) ?_
  refine E_aload_n rfl rfl ?_
  refine E_getfield (v := .ref 31) rfl rfl rfl (by decide) rfl ?_
  refine E_iload_n rfl rfl ?_
  refine E_aaload (b := 51) (j := 1) rfl rfl (by decide) (by decide) rfl ?_
  refine E_getfield (v := .int (-1)) rfl rfl rfl (by decide) rfl ?_
  refine E_goto (t := 20) rfl rfl ?_
  exact E_iret rfl rfl
theorem c171_X6_holds : Ev ab_Z0 2 140 [.ref 65, .int 1] w0 (some (.int (-1)), w0) := by
  refine Ef.in (md := mX6_holds) (L := [some (.ref 65), some (.int 1)]) rfl (Nat.le_of_ble_eq_true rfl) rfl ?_
  refine E_aload_n rfl rfl ?_
  refine E_iload_n rfl rfl ?_
  refine E_callV (v := some (.int 1)) (As := [.ref 65, .int 1]) (r0 := []) (cs2 := w0) rfl rfl rfl (Nat.le_of_ble_eq_true rfl) rfl rfl c129_X6_isShelf (by decide) rfl ?_
  refine E_if (t := 17) (b := false) rfl rfl (by decide) ?_
  refine E_aload_n rfl rfl ?_
  refine E_getfield (v := .ref 76) rfl rfl rfl (by decide) rfl ?_
  refine E_iload_n rfl rfl ?_
  refine E_iaload (x := 0) (j := 1) rfl rfl (by decide) (by decide) rfl ?_
  refine E_if (t := 19) (b := false) rfl rfl (by decide) ?_
  refine E_iconst (x := (-1)) rfl (by decide) ?_
  exact E_iret rfl rfl
theorem c172_X5_holds : Ev ab_Z0 2 81 [.ref 0, .int 2] w0 (some (.int (-1)), w0) := by
  refine Ef.in (md := mX5_holds) (L := [some (.ref 0), some (.int 2)]) rfl (Nat.le_of_ble_eq_true rfl) rfl ?_
  refine E_iload_n rfl rfl ?_
  refine E_callS (v := some (.int 1)) (As := [.int 2]) (r0 := []) (cs2 := w0) rfl rfl rfl (Nat.le_of_ble_eq_true rfl) rfl c14_X5_isShelf (by decide) rfl ?_
  refine E_if (t := 19) (b := false) rfl rfl (by decide) ?_
  refine E_aload_n rfl rfl ?_
  refine E_getfield (v := .ref 31) rfl rfl rfl (by decide) rfl ?_
  refine E_iload_n rfl rfl ?_
  refine E_aaload (b := 53) (j := 2) rfl rfl (by decide) (by decide) rfl ?_
  refine E_getfield (v := .int (-1)) rfl rfl rfl (by decide) rfl ?_
  refine E_goto (t := 20) rfl rfl ?_
  exact E_iret rfl rfl
theorem c173_X6_holds : Ev ab_Z0 2 140 [.ref 65, .int 2] w0 (some (.int (-1)), w0) := by
  refine Ef.in (md := mX6_holds) (L := [some (.ref 65), some (.int 2)]) rfl (Nat.le_of_ble_eq_true rfl) rfl ?_
  refine E_aload_n rfl rfl ?_
  refine E_iload_n rfl rfl ?_
  refine E_callV (v := some (.int 1)) (As := [.ref 65, .int 2]) (r0 := []) (cs2 := w0) rfl rfl rfl (Nat.le_of_ble_eq_true rfl) rfl rfl c130_X6_isShelf (by decide) rfl ?_
  refine E_if (t := 17) (b := false) rfl rfl (by decide) ?_
  refine E_aload_n rfl rfl ?_
  refine E_getfield (v := .ref 76) rfl rfl rfl (by decide) rfl ?_
  refine E_iload_n rfl rfl ?_
  refine E_iaload (x := 0) (j := 2) rfl rfl (by decide) (by decide) rfl ?_
  refine E_if (t := 19) (b := false) rfl rfl (by decide) ?_
  refine E_iconst (x := (-1)) rfl (by decide) ?_
  exact E_iret rfl rfl
theorem c174_X5_holds : Ev ab_Z0 2 81 [.ref 0, .int 3] w0 (some (.int (-1)), w0) := by
  refine Ef.in (md := mX5_holds) (L := [some (.ref 0), some (.int 3)]) rfl (Nat.le_of_ble_eq_true rfl) rfl ?_
  refine E_iload_n rfl rfl ?_
  refine E_callS (v := some (.int 1)) (As := [.int 3]) (r0 := []) (cs2 := w0) rfl rfl rfl (Nat.le_of_ble_eq_true rfl) rfl c16_X5_isShelf (by decide) rfl ?_
  refine E_if (t := 19) (b := false) rfl rfl (by decide) ?_
  refine E_aload_n rfl rfl ?_
  refine E_getfield (v := .ref 31) rfl rfl rfl (by decide) rfl ?_
  refine E_iload_n rfl rfl ?_
  refine E_aaload (b := 55) (j := 3) rfl rfl (by decide) (by decide) rfl ?_
  refine E_getfield (v := .int (-1)) rfl rfl rfl (by decide) rfl ?_
  refine E_goto (t := 20) rfl rfl ?_
  exact E_iret rfl rfl
theorem c175_X6_holds : Ev ab_Z0 2 140 [.ref 65, .int 3] w0 (some (.int (-1)), w0) := by
  refine Ef.in (md := mX6_holds) (L := [some (.ref 65), some (.int 3)]) rfl (Nat.le_of_ble_eq_true rfl) rfl ?_
  refine E_aload_n rfl rfl ?_
  refine E_iload_n rfl rfl ?_
  refine E_callV (v := some (.int 1)) (As := [.ref 65, .int 3]) (r0 := []) (cs2 := w0) rfl rfl rfl (Nat.le_of_ble_eq_true rfl) rfl rfl c131_X6_isShelf (by decide) rfl ?_
  refine E_if (t := 17) (b := false) rfl rfl (by decide) ?_
  refine E_aload_n rfl rfl ?_
  refine E_getfield (v := .ref 76) rfl rfl rfl (by decide) rfl ?_
  refine E_iload_n rfl rfl ?_
  refine E_iaload (x := 0) (j := 3) rfl rfl (by decide) (by decide) rfl ?_
  refine E_if (t := 19) (b := false) rfl rfl (by decide) ?_
  refine E_iconst (x := (-1)) rfl (by decide) ?_
  exact E_iret rfl rfl
theorem c176_X5_holds : Ev ab_Z0 2 81 [.ref 0, .int 4] w0 (some (.int (-1)), w0) := by
  refine Ef.in (md := mX5_holds) (L := [some (.ref 0), some (.int 4)]) rfl (Nat.le_of_ble_eq_true rfl) rfl ?_
  refine E_iload_n rfl rfl ?_
  refine E_callS (v := some (.int 1)) (As := [.int 4]) (r0 := []) (cs2 := w0) rfl rfl rfl (Nat.le_of_ble_eq_true rfl) rfl c18_X5_isShelf (by decide) rfl ?_
  refine E_if (t := 19) (b := false) rfl rfl (by decide) ?_
  refine E_aload_n rfl rfl ?_
  refine E_getfield (v := .ref 31) rfl rfl rfl (by decide) rfl ?_
  refine E_iload_n rfl rfl ?_
  refine E_aaload (b := 57) (j := 4) rfl rfl (by decide) (by decide) rfl ?_
  refine E_getfield (v := .int (-1)) rfl rfl rfl (by decide) rfl ?_
  refine E_goto (t := 20) rfl rfl ?_
  exact E_iret rfl rfl
theorem c177_X6_holds : Ev ab_Z0 2 140 [.ref 65, .int 4] w0 (some (.int (-1)), w0) := by
  refine Ef.in (md := mX6_holds) (L := [some (.ref 65), some (.int 4)]) rfl (Nat.le_of_ble_eq_true rfl) rfl ?_
  refine E_aload_n rfl rfl ?_
  refine E_iload_n rfl rfl ?_
  refine E_callV (v := some (.int 1)) (As := [.ref 65, .int 4]) (r0 := []) (cs2 := w0) rfl rfl rfl (Nat.le_of_ble_eq_true rfl) rfl rfl c132_X6_isShelf (by decide) rfl ?_
  refine E_if (t := 17) (b := false) rfl rfl (by decide) ?_
  refine E_aload_n rfl rfl ?_
  refine E_getfield (v := .ref 76) rfl rfl rfl (by decide) rfl ?_
  refine E_iload_n rfl rfl ?_
  refine E_iaload (x := 0) (j := 4) rfl rfl (by decide) (by decide) rfl ?_
  refine E_if (t := 19) (b := false) rfl rfl (by decide) ?_
  refine E_iconst (x := (-1)) rfl (by decide) ?_
  exact E_iret rfl rfl
theorem c178_X5_holds : Ev ab_Z0 2 81 [.ref 0, .int 5] w0 (some (.int (-1)), w0) := by
  refine Ef.in (md := mX5_holds) (L := [some (.ref 0), some (.int 5)]) rfl (Nat.le_of_ble_eq_true rfl) rfl ?_
  refine E_iload_n rfl rfl ?_
  refine E_callS (v := some (.int 1)) (As := [.int 5]) (r0 := []) (cs2 := w0) rfl rfl rfl (Nat.le_of_ble_eq_true rfl) rfl c20_X5_isShelf (by decide) rfl ?_
  refine E_if (t := 19) (b := false) rfl rfl (by decide) ?_
  refine E_aload_n rfl rfl ?_
  refine E_getfield (v := .ref 31) rfl rfl rfl (by decide) rfl ?_
  refine E_iload_n rfl rfl ?_
  refine E_aaload (b := 59) (j := 5) rfl rfl (by decide) (by decide) rfl ?_
  refine E_getfield (v := .int (-1)) rfl rfl rfl (by decide) rfl ?_
  refine E_goto (t := 20) rfl rfl ?_
  exact E_iret rfl rfl
theorem c179_X6_holds : Ev ab_Z0 2 140 [.ref 65, .int 5] w0 (some (.int (-1)), w0) := by
  refine Ef.in (md := mX6_holds) (L := [some (.ref 65), some (.int 5)]) rfl (Nat.le_of_ble_eq_true rfl) rfl ?_
  refine E_aload_n rfl rfl ?_
  refine E_iload_n rfl rfl ?_
  refine E_callV (v := some (.int 1)) (As := [.ref 65, .int 5]) (r0 := []) (cs2 := w0) rfl rfl rfl (Nat.le_of_ble_eq_true rfl) rfl rfl c133_X6_isShelf (by decide) rfl ?_
  refine E_if (t := 17) (b := false) rfl rfl (by decide) ?_
  refine E_aload_n rfl rfl ?_
  refine E_getfield (v := .ref 76) rfl rfl rfl (by decide) rfl ?_
  refine E_iload_n rfl rfl ?_
  refine E_iaload (x := 0) (j := 5) rfl rfl (by decide) (by decide) rfl ?_
  refine E_if (t := 19) (b := false) rfl rfl (by decide) ?_
  refine E_iconst (x := (-1)) rfl (by decide) ?_
  exact E_iret rfl rfl
theorem c180_X5_holds : Ev ab_Z0 2 81 [.ref 0, .int 6] w0 (some (.int (-1)), w0) := by
  refine Ef.in (md := mX5_holds) (L := [some (.ref 0), some (.int 6)]) rfl (Nat.le_of_ble_eq_true rfl) rfl ?_
  refine E_iload_n rfl rfl ?_
  refine E_callS (v := some (.int 1)) (As := [.int 6]) (r0 := []) (cs2 := w0) rfl rfl rfl (Nat.le_of_ble_eq_true rfl) rfl c22_X5_isShelf (by decide) rfl ?_
  refine E_if (t := 19) (b := false) rfl rfl (by decide) ?_
  refine E_aload_n rfl rfl ?_
  refine E_getfield (v := .ref 31) rfl rfl rfl (by decide) rfl ?_
  refine E_iload_n rfl rfl ?_
  refine E_aaload (b := 61) (j := 6) rfl rfl (by decide) (by decide) rfl ?_
  refine E_getfield (v := .int (-1)) rfl rfl rfl (by decide) rfl ?_
  refine E_goto (t := 20) rfl rfl ?_
  exact E_iret rfl rfl
theorem c181_X6_holds : Ev ab_Z0 2 140 [.ref 65, .int 6] w0 (some (.int (-1)), w0) := by
  refine Ef.in (md := mX6_holds) (L := [some (.ref 65), some (.int 6)]) rfl (Nat.le_of_ble_eq_true rfl) rfl ?_
  refine E_aload_n rfl rfl ?_
  refine E_iload_n rfl rfl ?_
  refine E_callV (v := some (.int 1)) (As := [.ref 65, .int 6]) (r0 := []) (cs2 := w0) rfl rfl rfl (Nat.le_of_ble_eq_true rfl) rfl rfl c134_X6_isShelf (by decide) rfl ?_
  refine E_if (t := 17) (b := false) rfl rfl (by decide) ?_
  refine E_aload_n rfl rfl ?_
  refine E_getfield (v := .ref 76) rfl rfl rfl (by decide) rfl ?_
  refine E_iload_n rfl rfl ?_
  refine E_iaload (x := 0) (j := 6) rfl rfl (by decide) (by decide) rfl ?_
  refine E_if (t := 19) (b := false) rfl rfl (by decide) ?_
  refine E_iconst (x := (-1)) rfl (by decide) ?_
  exact E_iret rfl rfl
theorem c182_X5_holds : Ev ab_Z0 2 81 [.ref 0, .int 7] w0 (some (.int (-1)), w0) := by
  refine Ef.in (md := mX5_holds) (L := [some (.ref 0), some (.int 7)]) rfl (Nat.le_of_ble_eq_true rfl) rfl ?_
  refine E_iload_n rfl rfl ?_
  refine E_callS (v := some (.int 1)) (As := [.int 7]) (r0 := []) (cs2 := w0) rfl rfl rfl (Nat.le_of_ble_eq_true rfl) rfl c24_X5_isShelf (by decide) rfl ?_
  refine E_if (t := 19) (b := false) rfl rfl (by decide) ?_
  refine E_aload_n rfl rfl ?_
  refine E_getfield (v := .ref 31) rfl rfl rfl (by decide) rfl ?_
  refine E_iload_n rfl rfl ?_
  refine E_aaload (b := 63) (j := 7) rfl rfl (by decide) (by decide) rfl ?_
  refine E_getfield (v := .int (-1)) rfl rfl rfl (by decide) rfl ?_
  refine E_goto (t := 20) rfl rfl ?_
  exact E_iret rfl rfl
theorem c183_X6_holds : Ev ab_Z0 2 140 [.ref 65, .int 7] w0 (some (.int (-1)), w0) := by
  refine Ef.in (md := mX6_holds) (L := [some (.ref 65), some (.int 7)]) rfl (Nat.le_of_ble_eq_true rfl) rfl ?_
  refine E_aload_n rfl rfl ?_
  refine E_iload_n rfl rfl ?_
  refine E_callV (v := some (.int 1)) (As := [.ref 65, .int 7]) (r0 := []) (cs2 := w0) rfl rfl rfl (Nat.le_of_ble_eq_true rfl) rfl rfl c135_X6_isShelf (by decide) rfl ?_
  refine E_if (t := 17) (b := false) rfl rfl (by decide) ?_
  refine E_aload_n rfl rfl ?_
  refine E_getfield (v := .ref 76) rfl rfl rfl (by decide) rfl ?_
  refine E_iload_n rfl rfl ?_
  refine E_iaload (x := 0) (j := 7) rfl rfl (by decide) (by decide) rfl ?_
  refine E_if (t := 19) (b := false) rfl rfl (by decide) ?_
  refine E_iconst (x := (-1)) rfl (by decide) ?_
  exact E_iret rfl rfl
theorem f_holds_1 (a1 : Int32) (ha1h : a1.toInt ≤ -1) : p1_P 2 81 2 140 [.ref 0, .int a1] [.ref 65, .int a1] :=
  ⟨(-1), w0, w0, by
    refine Ef.in (md := mX5_holds) (L := [some (.ref 0), some (.int a1)]) rfl (Nat.le_of_ble_eq_true rfl) rfl ?_
    refine E_iload_n rfl rfl ?_
    have e2 : Ev ab_Z0 1 117 [.int a1] w0 (some (.int 0), w0) := by
      refine Ef.in (md := mX5_isShelf) (L := [some (.int a1)]) rfl (Nat.le_of_ble_eq_true rfl) rfl ?_
      refine E_iload_n rfl rfl ?_
      refine E_if (t := 14) (b := true) rfl rfl ((cn_lt (rfl : (a1).toInt = (a1).toInt) (by decide : (0 : Int32).toInt = 0)).trans (decide_eq_true (by omega))) ?_
      refine E_iconst (x := 0) rfl (by decide) ?_
      exact E_iret rfl rfl
    refine E_callS (v := some (.int 0)) (As := [.int a1]) (r0 := []) (cs2 := w0) rfl rfl rfl (Nat.le_of_ble_eq_true rfl) rfl e2 (by decide) rfl ?_
    refine E_if (t := 19) (b := true) rfl rfl (by decide) ?_
    refine E_iconst (x := (-1)) rfl (by decide) ?_
    exact E_iret rfl rfl, by
    refine Ef.in (md := mX6_holds) (L := [some (.ref 65), some (.int a1)]) rfl (Nat.le_of_ble_eq_true rfl) rfl ?_
    refine E_aload_n rfl rfl ?_
    refine E_iload_n rfl rfl ?_
    have e3 : Ev ab_Z0 1 131 [.ref 65, .int a1] w0 (some (.int 0), w0) := by
      refine Ef.in (md := mX6_isShelf) (L := [some (.ref 65), some (.int a1)]) rfl (Nat.le_of_ble_eq_true rfl) rfl ?_
      refine E_iload_n rfl rfl ?_
      refine E_if (t := 14) (b := true) rfl rfl ((cn_lt (rfl : (a1).toInt = (a1).toInt) (by decide : (0 : Int32).toInt = 0)).trans (decide_eq_true (by omega))) ?_
      refine E_iconst (x := 0) rfl (by decide) ?_
      exact E_iret rfl rfl
    refine E_callV (v := some (.int 0)) (As := [.ref 65, .int a1]) (r0 := []) (cs2 := w0) rfl rfl rfl (Nat.le_of_ble_eq_true rfl) rfl rfl e3 (by decide) rfl ?_
    refine E_if (t := 17) (b := true) rfl rfl (by decide) ?_
    refine E_iconst (x := (-1)) rfl (by decide) ?_
    exact E_iret rfl rfl, rfl, rfl, rfl, fun _ => rfl⟩
theorem f_holds_2 : p1_P 2 81 2 140 [.ref 0, .int 0] [.ref 65, .int 0] :=
  ⟨(-1), w0, w0, by
    exact c168_X5_holds, by
    exact c169_X6_holds, rfl, rfl, rfl, fun _ => rfl⟩
theorem f_holds_3 : p1_P 2 81 2 140 [.ref 0, .int 1] [.ref 65, .int 1] :=
  ⟨(-1), w0, w0, by
    exact c170_X5_holds, by
    exact c171_X6_holds, rfl, rfl, rfl, fun _ => rfl⟩
theorem f_holds_4 : p1_P 2 81 2 140 [.ref 0, .int 2] [.ref 65, .int 2] :=
  ⟨(-1), w0, w0, by
    exact c172_X5_holds, by
    exact c173_X6_holds, rfl, rfl, rfl, fun _ => rfl⟩
theorem f_holds_5 : p1_P 2 81 2 140 [.ref 0, .int 3] [.ref 65, .int 3] :=
  ⟨(-1), w0, w0, by
    exact c174_X5_holds, by
    exact c175_X6_holds, rfl, rfl, rfl, fun _ => rfl⟩
theorem f_holds_6 : p1_P 2 81 2 140 [.ref 0, .int 4] [.ref 65, .int 4] :=
  ⟨(-1), w0, w0, by
    exact c176_X5_holds, by
    exact c177_X6_holds, rfl, rfl, rfl, fun _ => rfl⟩
theorem f_holds_7 : p1_P 2 81 2 140 [.ref 0, .int 5] [.ref 65, .int 5] :=
  ⟨(-1), w0, w0, by
    exact c178_X5_holds, by
    exact c179_X6_holds, rfl, rfl, rfl, fun _ => rfl⟩
theorem f_holds_8 : p1_P 2 81 2 140 [.ref 0, .int 6] [.ref 65, .int 6] :=
  ⟨(-1), w0, w0, by
    exact c180_X5_holds, by
    exact c181_X6_holds, rfl, rfl, rfl, fun _ => rfl⟩
theorem f_holds_9 : p1_P 2 81 2 140 [.ref 0, .int 7] [.ref 65, .int 7] :=
  ⟨(-1), w0, w0, by
    exact c182_X5_holds, by
    exact c183_X6_holds, rfl, rfl, rfl, fun _ => rfl⟩
theorem f_holds_10 (a1 : Int32) (ha1l : (8 : Int) ≤ a1.toInt) : p1_P 2 81 2 140 [.ref 0, .int a1] [.ref 65, .int a1] :=
  ⟨(-1), w0, w0, by
    refine Ef.in (md := mX5_holds) (L := [some (.ref 0), some (.int a1)]) rfl (Nat.le_of_ble_eq_true rfl) rfl ?_
    refine E_iload_n rfl rfl ?_
    have e2 : Ev ab_Z0 1 117 [.int a1] w0 (some (.int 0), w0) := by
      refine Ef.in (md := mX5_isShelf) (L := [some (.int a1)]) rfl (Nat.le_of_ble_eq_true rfl) rfl ?_
      refine E_iload_n rfl rfl ?_
      refine E_if (t := 14) (b := false) rfl rfl ((cn_lt (rfl : (a1).toInt = (a1).toInt) (by decide : (0 : Int32).toInt = 0)).trans (decide_eq_false (by omega))) ?_
      refine E_iload_n rfl rfl ?_
      refine E_bipush (x := 8) rfl (by decide) ?_
      refine E_ic (t := 14) (b := true) rfl rfl ((cn_ge (rfl : (a1).toInt = (a1).toInt) (by decide : (8 : Int32).toInt = 8)).trans (decide_eq_true (by omega))) ?_
      refine E_iconst (x := 0) rfl (by decide) ?_
      exact E_iret rfl rfl
    refine E_callS (v := some (.int 0)) (As := [.int a1]) (r0 := []) (cs2 := w0) rfl rfl rfl (Nat.le_of_ble_eq_true rfl) rfl e2 (by decide) rfl ?_
    refine E_if (t := 19) (b := true) rfl rfl (by decide) ?_
    refine E_iconst (x := (-1)) rfl (by decide) ?_
    exact E_iret rfl rfl, by
    refine Ef.in (md := mX6_holds) (L := [some (.ref 65), some (.int a1)]) rfl (Nat.le_of_ble_eq_true rfl) rfl ?_
    refine E_aload_n rfl rfl ?_
    refine E_iload_n rfl rfl ?_
    have e3 : Ev ab_Z0 1 131 [.ref 65, .int a1] w0 (some (.int 0), w0) := by
      refine Ef.in (md := mX6_isShelf) (L := [some (.ref 65), some (.int a1)]) rfl (Nat.le_of_ble_eq_true rfl) rfl ?_
      refine E_iload_n rfl rfl ?_
      refine E_if (t := 14) (b := false) rfl rfl ((cn_lt (rfl : (a1).toInt = (a1).toInt) (by decide : (0 : Int32).toInt = 0)).trans (decide_eq_false (by omega))) ?_
      refine E_iload_n rfl rfl ?_
      refine E_bipush (x := 8) rfl (by decide) ?_
      refine E_ic (t := 14) (b := true) rfl rfl ((cn_ge (rfl : (a1).toInt = (a1).toInt) (by decide : (8 : Int32).toInt = 8)).trans (decide_eq_true (by omega))) ?_
      refine E_iconst (x := 0) rfl (by decide) ?_
      exact E_iret rfl rfl
    refine E_callV (v := some (.int 0)) (As := [.ref 65, .int a1]) (r0 := []) (cs2 := w0) rfl rfl rfl (Nat.le_of_ble_eq_true rfl) rfl rfl e3 (by decide) rfl ?_
    refine E_if (t := 17) (b := true) rfl rfl (by decide) ?_
    refine E_iconst (x := (-1)) rfl (by decide) ?_
    exact E_iret rfl rfl, rfl, rfl, rfl, fun _ => rfl⟩
theorem f_holds (a1 : Int32) : p1_P 2 81 2 140 [.ref 0, .int a1] [.ref 65, .int a1] := by
  rcases ab_ltge a1.toInt (0) with h | h
  · exact f_holds_1 a1 (by omega)
  rcases ab_ltge a1.toInt (8) with h | h
  · rcases ab_ltge a1.toInt (1) with h | h
    · obtain rfl : a1 = 0 := Int32.toInt_inj.mp (by rw [show ((0 : Int32).toInt = 0) by decide]; omega)
      exact f_holds_2
    rcases ab_ltge a1.toInt (2) with h | h
    · obtain rfl : a1 = 1 := Int32.toInt_inj.mp (by rw [show ((1 : Int32).toInt = 1) by decide]; omega)
      exact f_holds_3
    rcases ab_ltge a1.toInt (3) with h | h
    · obtain rfl : a1 = 2 := Int32.toInt_inj.mp (by rw [show ((2 : Int32).toInt = 2) by decide]; omega)
      exact f_holds_4
    rcases ab_ltge a1.toInt (4) with h | h
    · obtain rfl : a1 = 3 := Int32.toInt_inj.mp (by rw [show ((3 : Int32).toInt = 3) by decide]; omega)
      exact f_holds_5
    rcases ab_ltge a1.toInt (5) with h | h
    · obtain rfl : a1 = 4 := Int32.toInt_inj.mp (by rw [show ((4 : Int32).toInt = 4) by decide]; omega)
      exact f_holds_6
    rcases ab_ltge a1.toInt (6) with h | h
    · obtain rfl : a1 = 5 := Int32.toInt_inj.mp (by rw [show ((5 : Int32).toInt = 5) by decide]; omega)
      exact f_holds_7
    rcases ab_ltge a1.toInt (7) with h | h
    · obtain rfl : a1 = 6 := Int32.toInt_inj.mp (by rw [show ((6 : Int32).toInt = 6) by decide]; omega)
      exact f_holds_8
    obtain rfl : a1 = 7 := Int32.toInt_inj.mp (by rw [show ((7 : Int32).toInt = 7) by decide]; omega)
    exact f_holds_9
  exact f_holds_10 a1 (by omega)
