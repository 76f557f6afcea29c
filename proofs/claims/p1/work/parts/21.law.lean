/-! the law, case by case; by program (wip/tools/p1law.py) -/
theorem lg_cmp_self (x : Int64) : lg_cmp x x = 0 := by
  unfold lg_cmp
  simp
theorem law_0 {a0 a1 a2 a3 a4 a5 : Int32} (h0 : a0 &&& 63 = 0) {r : Int32} {cs1 cs2 : List ab_C} (hx : Ev ab_Z0 3 76 [.ref 0, .int a1, .int a2, .int a3] w0 (some (.int r), cs1)) (hm : Ev ab_Z0 2 135 [.ref 65, .int a1, .int a2, .int a3] cs1 (some (.int r), cs2)) (l1 : cs1.length = 95) (l2 : cs2.length = 95) (hrv : ∀ l, ab_rv ab_G 6 (.ref 65 :: l) cs1 = true) : Ef (3, ab_Tb ++ [[a0, a1, a2, a3, a4, a5]]) 8 mL_law (27, [some (.ref 1000002), some (.ref 0), some (.ref 65), some (.int 0)], [], w0) (some (.int 1), cs2) := by
  have hw : w0.length = 95 := rfl
  refine E_aload_n rfl rfl ?_
  refine E_iload_n rfl rfl ?_
  refine E_tload (x := a0) (j := 0) (t := 2) rfl rfl rfl (by decide) rfl (by decide) (by decide) rfl ?_
  refine E_bipush (x := 63) rfl (by decide) ?_
  refine E_iand (z := 0) rfl h0 ?_
  refine E_tsIn (off := 171) (t := 204) rfl (by decide) rfl rfl ?_
  refine E_aload_n rfl rfl ?_
  refine E_aload_n rfl rfl ?_
  refine E_iload_n rfl rfl ?_
  refine E_iconst (x := 1) rfl (by decide) ?_
  refine E_iadd (z := 1) rfl (by decide) ?_
  refine E_tload (x := a1) (j := 1) (t := 2) rfl rfl rfl (by decide) rfl (by decide) (by decide) rfl ?_
  refine E_aload_n rfl rfl ?_
  refine E_iload_n rfl rfl ?_
  refine E_iconst (x := 2) rfl (by decide) ?_
  refine E_iadd (z := 2) rfl (by decide) ?_
  refine E_tload (x := a2) (j := 2) (t := 2) rfl rfl rfl (by decide) rfl (by decide) (by decide) rfl ?_
  refine E_aload_n rfl rfl ?_
  refine E_iload_n rfl rfl ?_
  refine E_iconst (x := 3) rfl (by decide) ?_
  refine E_iadd (z := 3) rfl (by decide) ?_
  refine E_tload (x := a3) (j := 3) (t := 2) rfl rfl rfl (by decide) rfl (by decide) (by decide) rfl ?_
  refine E_callV (v := some (.int r)) (As := [.ref 0, .int a1, .int a2, .int a3]) (r0 := []) (cs2 := cs1) rfl rfl rfl (Nat.le_of_ble_eq_true rfl) rfl rfl hx (by decide) (by omega) ?_
  refine E_aload_n rfl rfl ?_
  refine E_aload_n rfl rfl ?_
  refine E_iload_n rfl rfl ?_
  refine E_iconst (x := 1) rfl (by decide) ?_
  refine E_iadd (z := 1) rfl (by decide) ?_
  refine E_tload (x := a1) (j := 1) (t := 2) rfl (List.getElem?_eq_none (by omega)) rfl (by decide) rfl (by decide) (by decide) rfl ?_
  refine E_aload_n rfl rfl ?_
  refine E_iload_n rfl rfl ?_
  refine E_iconst (x := 2) rfl (by decide) ?_
  refine E_iadd (z := 2) rfl (by decide) ?_
  refine E_tload (x := a2) (j := 2) (t := 2) rfl (List.getElem?_eq_none (by omega)) rfl (by decide) rfl (by decide) (by decide) rfl ?_
  refine E_aload_n rfl rfl ?_
  refine E_iload_n rfl rfl ?_
  refine E_iconst (x := 3) rfl (by decide) ?_
  refine E_iadd (z := 3) rfl (by decide) ?_
  refine E_tload (x := a3) (j := 3) (t := 2) rfl (List.getElem?_eq_none (by omega)) rfl (by decide) rfl (by decide) (by decide) rfl ?_
  refine E_callV (v := some (.int r)) (As := [.ref 65, .int a1, .int a2, .int a3]) (r0 := [.int r]) (cs2 := cs2) rfl rfl rfl (Nat.le_of_ble_eq_true rfl) rfl (hrv _) hm (by decide) (by omega) ?_
  refine E_ic (t := 1452) (b := true) rfl rfl (decide_eq_true rfl) ?_
  refine E_iinc (y := 6) (L2 := [some (.ref 1000002), some (.ref 0), some (.ref 65), some (.int 6)]) rfl rfl (by decide) rfl ?_
  refine E_goto (t := 18) rfl rfl ?_
  refine E_iload_n rfl rfl ?_
  refine E_aload_n rfl rfl ?_
  refine E_tlen (n := 6) (t := 2) rfl (List.getElem?_eq_none (by omega)) rfl (by decide) rfl rfl ?_
  refine E_bipush (x := 6) rfl (by decide) ?_
  refine E_isub (z := 0) rfl (by decide) ?_
  refine E_ic (t := 1458) (b := true) rfl rfl (by decide) ?_
  refine E_iconst (x := 1) rfl (by decide) ?_
  exact E_iret rfl rfl
theorem law_1 {a0 a1 a2 a3 a4 a5 : Int32} (h0 : a0 &&& 63 = 1) {r : Int32} {cs1 cs2 : List ab_C} (hx : Ev ab_Z0 3 77 [.ref 0, .int a1, .int a2, .long (((a3.toInt64) <<< ((32 : Int32).toInt64 &&& 63)) ||| ((a4.toInt64) &&& 4294967295))] w0 (some (.int r), cs1)) (hm : Ev ab_Z0 2 136 [.ref 65, .int a1, .int a2, .long (((a3.toInt64) <<< ((32 : Int32).toInt64 &&& 63)) ||| ((a4.toInt64) &&& 4294967295))] cs1 (some (.int r), cs2)) (l1 : cs1.length = 95) (l2 : cs2.length = 95) (hrv : ∀ l, ab_rv ab_G 6 (.ref 65 :: l) cs1 = true) : Ef (3, ab_Tb ++ [[a0, a1, a2, a3, a4, a5]]) 8 mL_law (27, [some (.ref 1000002), some (.ref 0), some (.ref 65), some (.int 0)], [], w0) (some (.int 1), cs2) := by
  have hw : w0.length = 95 := rfl
  refine E_aload_n rfl rfl ?_
  refine E_iload_n rfl rfl ?_
  refine E_tload (x := a0) (j := 0) (t := 2) rfl rfl rfl (by decide) rfl (by decide) (by decide) rfl ?_
  refine E_bipush (x := 63) rfl (by decide) ?_
  refine E_iand (z := 1) rfl h0 ?_
  refine E_tsIn (off := 214) (t := 247) rfl (by decide) rfl rfl ?_
  refine E_aload_n rfl rfl ?_
  refine E_aload_n rfl rfl ?_
  refine E_iload_n rfl rfl ?_
  refine E_iconst (x := 1) rfl (by decide) ?_
  refine E_iadd (z := 1) rfl (by decide) ?_
  refine E_tload (x := a1) (j := 1) (t := 2) rfl rfl rfl (by decide) rfl (by decide) (by decide) rfl ?_
  refine E_aload_n rfl rfl ?_
  refine E_iload_n rfl rfl ?_
  refine E_iconst (x := 2) rfl (by decide) ?_
  refine E_iadd (z := 2) rfl (by decide) ?_
  refine E_tload (x := a2) (j := 2) (t := 2) rfl rfl rfl (by decide) rfl (by decide) (by decide) rfl ?_
  refine E_aload_n rfl rfl ?_
  refine E_iload_n rfl rfl ?_
  refine E_iconst (x := 3) rfl (by decide) ?_
  refine E_iadd (z := 3) rfl (by decide) ?_
  refine E_tload (x := a3) (j := 3) (t := 2) rfl rfl rfl (by decide) rfl (by decide) (by decide) rfl ?_
  refine E_i2l (z := (a3.toInt64)) rfl rfl ?_
  refine E_bipush (x := 32) rfl (by decide) ?_
  refine E_lshl (z := ((a3.toInt64) <<< ((32 : Int32).toInt64 &&& 63))) rfl rfl ?_
  refine E_aload_n rfl rfl ?_
  refine E_iload_n rfl rfl ?_
  refine E_iconst (x := 4) rfl (by decide) ?_
  refine E_iadd (z := 4) rfl (by decide) ?_
  refine E_tload (x := a4) (j := 4) (t := 2) rfl rfl rfl (by decide) rfl (by decide) (by decide) rfl ?_
  refine E_i2l (z := (a4.toInt64)) rfl rfl ?_
  refine E_ldc2 (x := 4294967295) rfl (by decide) ?_
  refine E_land (z := ((a4.toInt64) &&& 4294967295)) rfl rfl ?_
  refine E_lor (z := (((a3.toInt64) <<< ((32 : Int32).toInt64 &&& 63)) ||| ((a4.toInt64) &&& 4294967295))) rfl rfl ?_
  refine E_callV (v := some (.int r)) (As := [.ref 0, .int a1, .int a2, .long (((a3.toInt64) <<< ((32 : Int32).toInt64 &&& 63)) ||| ((a4.toInt64) &&& 4294967295))]) (r0 := []) (cs2 := cs1) rfl rfl rfl (Nat.le_of_ble_eq_true rfl) rfl rfl hx (by decide) (by omega) ?_
  refine E_aload_n rfl rfl ?_
  refine E_aload_n rfl rfl ?_
  refine E_iload_n rfl rfl ?_
  refine E_iconst (x := 1) rfl (by decide) ?_
  refine E_iadd (z := 1) rfl (by decide) ?_
  refine E_tload (x := a1) (j := 1) (t := 2) rfl (List.getElem?_eq_none (by omega)) rfl (by decide) rfl (by decide) (by decide) rfl ?_
  refine E_aload_n rfl rfl ?_
  refine E_iload_n rfl rfl ?_
  refine E_iconst (x := 2) rfl (by decide) ?_
  refine E_iadd (z := 2) rfl (by decide) ?_
  refine E_tload (x := a2) (j := 2) (t := 2) rfl (List.getElem?_eq_none (by omega)) rfl (by decide) rfl (by decide) (by decide) rfl ?_
  refine E_aload_n rfl rfl ?_
  refine E_iload_n rfl rfl ?_
  refine E_iconst (x := 3) rfl (by decide) ?_
  refine E_iadd (z := 3) rfl (by decide) ?_
  refine E_tload (x := a3) (j := 3) (t := 2) rfl (List.getElem?_eq_none (by omega)) rfl (by decide) rfl (by decide) (by decide) rfl ?_
  refine E_i2l (z := (a3.toInt64)) rfl rfl ?_
  refine E_bipush (x := 32) rfl (by decide) ?_
  refine E_lshl (z := ((a3.toInt64) <<< ((32 : Int32).toInt64 &&& 63))) rfl rfl ?_
  refine E_aload_n rfl rfl ?_
  refine E_iload_n rfl rfl ?_
  refine E_iconst (x := 4) rfl (by decide) ?_
  refine E_iadd (z := 4) rfl (by decide) ?_
  refine E_tload (x := a4) (j := 4) (t := 2) rfl (List.getElem?_eq_none (by omega)) rfl (by decide) rfl (by decide) (by decide) rfl ?_
  refine E_i2l (z := (a4.toInt64)) rfl rfl ?_
  refine E_ldc2 (x := 4294967295) rfl (by decide) ?_
  refine E_land (z := ((a4.toInt64) &&& 4294967295)) rfl rfl ?_
  refine E_lor (z := (((a3.toInt64) <<< ((32 : Int32).toInt64 &&& 63)) ||| ((a4.toInt64) &&& 4294967295))) rfl rfl ?_
  refine E_callV (v := some (.int r)) (As := [.ref 65, .int a1, .int a2, .long (((a3.toInt64) <<< ((32 : Int32).toInt64 &&& 63)) ||| ((a4.toInt64) &&& 4294967295))]) (r0 := [.int r]) (cs2 := cs2) rfl rfl rfl (Nat.le_of_ble_eq_true rfl) rfl (hrv _) hm (by decide) (by omega) ?_
  refine E_ic (t := 1452) (b := true) rfl rfl (decide_eq_true rfl) ?_
  refine E_iinc (y := 6) (L2 := [some (.ref 1000002), some (.ref 0), some (.ref 65), some (.int 6)]) rfl rfl (by decide) rfl ?_
  refine E_goto (t := 18) rfl rfl ?_
  refine E_iload_n rfl rfl ?_
  refine E_aload_n rfl rfl ?_
  refine E_tlen (n := 6) (t := 2) rfl (List.getElem?_eq_none (by omega)) rfl (by decide) rfl rfl ?_
  refine E_bipush (x := 6) rfl (by decide) ?_
  refine E_isub (z := 0) rfl (by decide) ?_
  refine E_ic (t := 1458) (b := true) rfl rfl (by decide) ?_
  refine E_iconst (x := 1) rfl (by decide) ?_
  exact E_iret rfl rfl
theorem law_2 {a0 a1 a2 a3 a4 a5 : Int32} (h0 : a0 &&& 63 = 2) {r : Int32} {cs1 cs2 : List ab_C} (hx : Ev ab_Z0 3 78 [.ref 0, .int a1, .int a2, .int a3, .int a4, .int a5] w0 (some (.int r), cs1)) (hm : Ev ab_Z0 2 137 [.ref 65, .int a1, .int a2, .int a3, .int a4, .int a5] cs1 (some (.int r), cs2)) (l1 : cs1.length = 95) (l2 : cs2.length = 95) (hrv : ∀ l, ab_rv ab_G 6 (.ref 65 :: l) cs1 = true) : Ef (3, ab_Tb ++ [[a0, a1, a2, a3, a4, a5]]) 8 mL_law (27, [some (.ref 1000002), some (.ref 0), some (.ref 65), some (.int 0)], [], w0) (some (.int 1), cs2) := by
  have hw : w0.length = 95 := rfl
  refine E_aload_n rfl rfl ?_
  refine E_iload_n rfl rfl ?_
  refine E_tload (x := a0) (j := 0) (t := 2) rfl rfl rfl (by decide) rfl (by decide) (by decide) rfl ?_
  refine E_bipush (x := 63) rfl (by decide) ?_
  refine E_iand (z := 2) rfl h0 ?_
  refine E_tsIn (off := 287) (t := 320) rfl (by decide) rfl rfl ?_
  refine E_aload_n rfl rfl ?_
  refine E_aload_n rfl rfl ?_
  refine E_iload_n rfl rfl ?_
  refine E_iconst (x := 1) rfl (by decide) ?_
  refine E_iadd (z := 1) rfl (by decide) ?_
  refine E_tload (x := a1) (j := 1) (t := 2) rfl rfl rfl (by decide) rfl (by decide) (by decide) rfl ?_
  refine E_aload_n rfl rfl ?_
  refine E_iload_n rfl rfl ?_
  refine E_iconst (x := 2) rfl (by decide) ?_
  refine E_iadd (z := 2) rfl (by decide) ?_
  refine E_tload (x := a2) (j := 2) (t := 2) rfl rfl rfl (by decide) rfl (by decide) (by decide) rfl ?_
  refine E_aload_n rfl rfl ?_
  refine E_iload_n rfl rfl ?_
  refine E_iconst (x := 3) rfl (by decide) ?_
  refine E_iadd (z := 3) rfl (by decide) ?_
  refine E_tload (x := a3) (j := 3) (t := 2) rfl rfl rfl (by decide) rfl (by decide) (by decide) rfl ?_
  refine E_aload_n rfl rfl ?_
  refine E_iload_n rfl rfl ?_
  refine E_iconst (x := 4) rfl (by decide) ?_
  refine E_iadd (z := 4) rfl (by decide) ?_
  refine E_tload (x := a4) (j := 4) (t := 2) rfl rfl rfl (by decide) rfl (by decide) (by decide) rfl ?_
  refine E_aload_n rfl rfl ?_
  refine E_iload_n rfl rfl ?_
  refine E_iconst (x := 5) rfl (by decide) ?_
  refine E_iadd (z := 5) rfl (by decide) ?_
  refine E_tload (x := a5) (j := 5) (t := 2) rfl rfl rfl (by decide) rfl (by decide) (by decide) rfl ?_
  refine E_callV (v := some (.int r)) (As := [.ref 0, .int a1, .int a2, .int a3, .int a4, .int a5]) (r0 := []) (cs2 := cs1) rfl rfl rfl (Nat.le_of_ble_eq_true rfl) rfl rfl hx (by decide) (by omega) ?_
  refine E_aload_n rfl rfl ?_
  refine E_aload_n rfl rfl ?_
  refine E_iload_n rfl rfl ?_
  refine E_iconst (x := 1) rfl (by decide) ?_
  refine E_iadd (z := 1) rfl (by decide) ?_
  refine E_tload (x := a1) (j := 1) (t := 2) rfl (List.getElem?_eq_none (by omega)) rfl (by decide) rfl (by decide) (by decide) rfl ?_
  refine E_aload_n rfl rfl ?_
  refine E_iload_n rfl rfl ?_
  refine E_iconst (x := 2) rfl (by decide) ?_
  refine E_iadd (z := 2) rfl (by decide) ?_
  refine E_tload (x := a2) (j := 2) (t := 2) rfl (List.getElem?_eq_none (by omega)) rfl (by decide) rfl (by decide) (by decide) rfl ?_
  refine E_aload_n rfl rfl ?_
  refine E_iload_n rfl rfl ?_
  refine E_iconst (x := 3) rfl (by decide) ?_
  refine E_iadd (z := 3) rfl (by decide) ?_
  refine E_tload (x := a3) (j := 3) (t := 2) rfl (List.getElem?_eq_none (by omega)) rfl (by decide) rfl (by decide) (by decide) rfl ?_
  refine E_aload_n rfl rfl ?_
  refine E_iload_n rfl rfl ?_
  refine E_iconst (x := 4) rfl (by decide) ?_
  refine E_iadd (z := 4) rfl (by decide) ?_
  refine E_tload (x := a4) (j := 4) (t := 2) rfl (List.getElem?_eq_none (by omega)) rfl (by decide) rfl (by decide) (by decide) rfl ?_
  refine E_aload_n rfl rfl ?_
  refine E_iload_n rfl rfl ?_
  refine E_iconst (x := 5) rfl (by decide) ?_
  refine E_iadd (z := 5) rfl (by decide) ?_
  refine E_tload (x := a5) (j := 5) (t := 2) rfl (List.getElem?_eq_none (by omega)) rfl (by decide) rfl (by decide) (by decide) rfl ?_
  refine E_callV (v := some (.int r)) (As := [.ref 65, .int a1, .int a2, .int a3, .int a4, .int a5]) (r0 := [.int r]) (cs2 := cs2) rfl rfl rfl (Nat.le_of_ble_eq_true rfl) rfl (hrv _) hm (by decide) (by omega) ?_
  refine E_ic (t := 1452) (b := true) rfl rfl (decide_eq_true rfl) ?_
  refine E_iinc (y := 6) (L2 := [some (.ref 1000002), some (.ref 0), some (.ref 65), some (.int 6)]) rfl rfl (by decide) rfl ?_
  refine E_goto (t := 18) rfl rfl ?_
  refine E_iload_n rfl rfl ?_
  refine E_aload_n rfl rfl ?_
  refine E_tlen (n := 6) (t := 2) rfl (List.getElem?_eq_none (by omega)) rfl (by decide) rfl rfl ?_
  refine E_bipush (x := 6) rfl (by decide) ?_
  refine E_isub (z := 0) rfl (by decide) ?_
  refine E_ic (t := 1458) (b := true) rfl rfl (by decide) ?_
  refine E_iconst (x := 1) rfl (by decide) ?_
  exact E_iret rfl rfl
theorem law_3 {a0 a1 a2 a3 a4 a5 : Int32} (h0 : a0 &&& 63 = 3) {r : Int64} {cs1 cs2 : List ab_C} (hx : Ev ab_Z0 3 79 [.ref 0, .int a1, .int a2] w0 (some (.long r), cs1)) (hm : Ev ab_Z0 2 138 [.ref 65, .int a1, .int a2] cs1 (some (.long r), cs2)) (l1 : cs1.length = 95) (l2 : cs2.length = 95) (hrv : ∀ l, ab_rv ab_G 6 (.ref 65 :: l) cs1 = true) : Ef (3, ab_Tb ++ [[a0, a1, a2, a3, a4, a5]]) 8 mL_law (27, [some (.ref 1000002), some (.ref 0), some (.ref 65), some (.int 0)], [], w0) (some (.int 1), cs2) := by
  have hw : w0.length = 95 := rfl
  refine E_aload_n rfl rfl ?_
  refine E_iload_n rfl rfl ?_
  refine E_tload (x := a0) (j := 0) (t := 2) rfl rfl rfl (by decide) rfl (by decide) (by decide) rfl ?_
  refine E_bipush (x := 63) rfl (by decide) ?_
  refine E_iand (z := 3) rfl h0 ?_
  refine E_tsIn (off := 350) (t := 383) rfl (by decide) rfl rfl ?_
  refine E_aload_n rfl rfl ?_
  refine E_aload_n rfl rfl ?_
  refine E_iload_n rfl rfl ?_
  refine E_iconst (x := 1) rfl (by decide) ?_
  refine E_iadd (z := 1) rfl (by decide) ?_
  refine E_tload (x := a1) (j := 1) (t := 2) rfl rfl rfl (by decide) rfl (by decide) (by decide) rfl ?_
  refine E_aload_n rfl rfl ?_
  refine E_iload_n rfl rfl ?_
  refine E_iconst (x := 2) rfl (by decide) ?_
  refine E_iadd (z := 2) rfl (by decide) ?_
  refine E_tload (x := a2) (j := 2) (t := 2) rfl rfl rfl (by decide) rfl (by decide) (by decide) rfl ?_
  refine E_callV (v := some (.long r)) (As := [.ref 0, .int a1, .int a2]) (r0 := []) (cs2 := cs1) rfl rfl rfl (Nat.le_of_ble_eq_true rfl) rfl rfl hx (by decide) (by omega) ?_
  refine E_aload_n rfl rfl ?_
  refine E_aload_n rfl rfl ?_
  refine E_iload_n rfl rfl ?_
  refine E_iconst (x := 1) rfl (by decide) ?_
  refine E_iadd (z := 1) rfl (by decide) ?_
  refine E_tload (x := a1) (j := 1) (t := 2) rfl (List.getElem?_eq_none (by omega)) rfl (by decide) rfl (by decide) (by decide) rfl ?_
  refine E_aload_n rfl rfl ?_
  refine E_iload_n rfl rfl ?_
  refine E_iconst (x := 2) rfl (by decide) ?_
  refine E_iadd (z := 2) rfl (by decide) ?_
  refine E_tload (x := a2) (j := 2) (t := 2) rfl (List.getElem?_eq_none (by omega)) rfl (by decide) rfl (by decide) (by decide) rfl ?_
  refine E_callV (v := some (.long r)) (As := [.ref 65, .int a1, .int a2]) (r0 := [.long r]) (cs2 := cs2) rfl rfl rfl (Nat.le_of_ble_eq_true rfl) rfl (hrv _) hm (by decide) (by omega) ?_
  refine E_lcmp (z := 0) rfl (lg_cmp_self _) ?_
  refine E_if (t := 1452) (b := true) rfl rfl (by decide) ?_
  refine E_iinc (y := 6) (L2 := [some (.ref 1000002), some (.ref 0), some (.ref 65), some (.int 6)]) rfl rfl (by decide) rfl ?_
  refine E_goto (t := 18) rfl rfl ?_
  refine E_iload_n rfl rfl ?_
  refine E_aload_n rfl rfl ?_
  refine E_tlen (n := 6) (t := 2) rfl (List.getElem?_eq_none (by omega)) rfl (by decide) rfl rfl ?_
  refine E_bipush (x := 6) rfl (by decide) ?_
  refine E_isub (z := 0) rfl (by decide) ?_
  refine E_ic (t := 1458) (b := true) rfl rfl (by decide) ?_
  refine E_iconst (x := 1) rfl (by decide) ?_
  exact E_iret rfl rfl
theorem law_4 {a0 a1 a2 a3 a4 a5 : Int32} (h0 : a0 &&& 63 = 4) {r : Int32} {cs1 cs2 : List ab_C} (hx : Ev ab_Z0 3 80 [.ref 0, .int a1, .int a2] w0 (some (.int r), cs1)) (hm : Ev ab_Z0 2 139 [.ref 65, .int a1, .int a2] cs1 (some (.int r), cs2)) (l1 : cs1.length = 95) (l2 : cs2.length = 95) (hrv : ∀ l, ab_rv ab_G 6 (.ref 65 :: l) cs1 = true) : Ef (3, ab_Tb ++ [[a0, a1, a2, a3, a4, a5]]) 8 mL_law (27, [some (.ref 1000002), some (.ref 0), some (.ref 65), some (.int 0)], [], w0) (some (.int 1), cs2) := by
  have hw : w0.length = 95 := rfl
  refine E_aload_n rfl rfl ?_
  refine E_iload_n rfl rfl ?_
  refine E_tload (x := a0) (j := 0) (t := 2) rfl rfl rfl (by decide) rfl (by decide) (by decide) rfl ?_
  refine E_bipush (x := 63) rfl (by decide) ?_
  refine E_iand (z := 4) rfl h0 ?_
  refine E_tsIn (off := 384) (t := 417) rfl (by decide) rfl rfl ?_
  refine E_aload_n rfl rfl ?_
  refine E_aload_n rfl rfl ?_
  refine E_iload_n rfl rfl ?_
  refine E_iconst (x := 1) rfl (by decide) ?_
  refine E_iadd (z := 1) rfl (by decide) ?_
  refine E_tload (x := a1) (j := 1) (t := 2) rfl rfl rfl (by decide) rfl (by decide) (by decide) rfl ?_
  refine E_aload_n rfl rfl ?_
  refine E_iload_n rfl rfl ?_
  refine E_iconst (x := 2) rfl (by decide) ?_
  refine E_iadd (z := 2) rfl (by decide) ?_
  refine E_tload (x := a2) (j := 2) (t := 2) rfl rfl rfl (by decide) rfl (by decide) (by decide) rfl ?_
  refine E_callV (v := some (.int r)) (As := [.ref 0, .int a1, .int a2]) (r0 := []) (cs2 := cs1) rfl rfl rfl (Nat.le_of_ble_eq_true rfl) rfl rfl hx (by decide) (by omega) ?_
  refine E_aload_n rfl rfl ?_
  refine E_aload_n rfl rfl ?_
  refine E_iload_n rfl rfl ?_
  refine E_iconst (x := 1) rfl (by decide) ?_
  refine E_iadd (z := 1) rfl (by decide) ?_
  refine E_tload (x := a1) (j := 1) (t := 2) rfl (List.getElem?_eq_none (by omega)) rfl (by decide) rfl (by decide) (by decide) rfl ?_
  refine E_aload_n rfl rfl ?_
  refine E_iload_n rfl rfl ?_
  refine E_iconst (x := 2) rfl (by decide) ?_
  refine E_iadd (z := 2) rfl (by decide) ?_
  refine E_tload (x := a2) (j := 2) (t := 2) rfl (List.getElem?_eq_none (by omega)) rfl (by decide) rfl (by decide) (by decide) rfl ?_
  refine E_callV (v := some (.int r)) (As := [.ref 65, .int a1, .int a2]) (r0 := [.int r]) (cs2 := cs2) rfl rfl rfl (Nat.le_of_ble_eq_true rfl) rfl (hrv _) hm (by decide) (by omega) ?_
  refine E_ic (t := 1452) (b := true) rfl rfl (decide_eq_true rfl) ?_
  refine E_iinc (y := 6) (L2 := [some (.ref 1000002), some (.ref 0), some (.ref 65), some (.int 6)]) rfl rfl (by decide) rfl ?_
  refine E_goto (t := 18) rfl rfl ?_
  refine E_iload_n rfl rfl ?_
  refine E_aload_n rfl rfl ?_
  refine E_tlen (n := 6) (t := 2) rfl (List.getElem?_eq_none (by omega)) rfl (by decide) rfl rfl ?_
  refine E_bipush (x := 6) rfl (by decide) ?_
  refine E_isub (z := 0) rfl (by decide) ?_
  refine E_ic (t := 1458) (b := true) rfl rfl (by decide) ?_
  refine E_iconst (x := 1) rfl (by decide) ?_
  exact E_iret rfl rfl
theorem law_5 {a0 a1 a2 a3 a4 a5 : Int32} (h0 : a0 &&& 63 = 5) {r : Int32} {cs1 cs2 : List ab_C} (hx : Ev ab_Z0 2 81 [.ref 0, .int a1] w0 (some (.int r), cs1)) (hm : Ev ab_Z0 2 140 [.ref 65, .int a1] cs1 (some (.int r), cs2)) (l1 : cs1.length = 95) (l2 : cs2.length = 95) (hrv : ∀ l, ab_rv ab_G 6 (.ref 65 :: l) cs1 = true) : Ef (3, ab_Tb ++ [[a0, a1, a2, a3, a4, a5]]) 8 mL_law (27, [some (.ref 1000002), some (.ref 0), some (.ref 65), some (.int 0)], [], w0) (some (.int 1), cs2) := by
  have hw : w0.length = 95 := rfl
  refine E_aload_n rfl rfl ?_
  refine E_iload_n rfl rfl ?_
  refine E_tload (x := a0) (j := 0) (t := 2) rfl rfl rfl (by decide) rfl (by decide) (by decide) rfl ?_
  refine E_bipush (x := 63) rfl (by decide) ?_
  refine E_iand (z := 5) rfl h0 ?_
  refine E_tsIn (off := 417) (t := 450) rfl (by decide) rfl rfl ?_
  refine E_aload_n rfl rfl ?_
  refine E_aload_n rfl rfl ?_
  refine E_iload_n rfl rfl ?_
  refine E_iconst (x := 1) rfl (by decide) ?_
  refine E_iadd (z := 1) rfl (by decide) ?_
  refine E_tload (x := a1) (j := 1) (t := 2) rfl rfl rfl (by decide) rfl (by decide) (by decide) rfl ?_
  refine E_callV (v := some (.int r)) (As := [.ref 0, .int a1]) (r0 := []) (cs2 := cs1) rfl rfl rfl (Nat.le_of_ble_eq_true rfl) rfl rfl hx (by decide) (by omega) ?_
  refine E_aload_n rfl rfl ?_
  refine E_aload_n rfl rfl ?_
  refine E_iload_n rfl rfl ?_
  refine E_iconst (x := 1) rfl (by decide) ?_
  refine E_iadd (z := 1) rfl (by decide) ?_
  refine E_tload (x := a1) (j := 1) (t := 2) rfl (List.getElem?_eq_none (by omega)) rfl (by decide) rfl (by decide) (by decide) rfl ?_
  refine E_callV (v := some (.int r)) (As := [.ref 65, .int a1]) (r0 := [.int r]) (cs2 := cs2) rfl rfl rfl (Nat.le_of_ble_eq_true rfl) rfl (hrv _) hm (by decide) (by omega) ?_
  refine E_ic (t := 1452) (b := true) rfl rfl (decide_eq_true rfl) ?_
  refine E_iinc (y := 6) (L2 := [some (.ref 1000002), some (.ref 0), some (.ref 65), some (.int 6)]) rfl rfl (by decide) rfl ?_
  refine E_goto (t := 18) rfl rfl ?_
  refine E_iload_n rfl rfl ?_
  refine E_aload_n rfl rfl ?_
  refine E_tlen (n := 6) (t := 2) rfl (List.getElem?_eq_none (by omega)) rfl (by decide) rfl rfl ?_
  refine E_bipush (x := 6) rfl (by decide) ?_
  refine E_isub (z := 0) rfl (by decide) ?_
  refine E_ic (t := 1458) (b := true) rfl rfl (by decide) ?_
  refine E_iconst (x := 1) rfl (by decide) ?_
  exact E_iret rfl rfl
theorem law_6 {a0 a1 a2 a3 a4 a5 : Int32} (h0 : a0 &&& 63 = 6) {r : Int32} {cs1 cs2 : List ab_C} (hx : Ev ab_Z0 3 82 [.ref 0, .int a1, .int a2] w0 (some (.int r), cs1)) (hm : Ev ab_Z0 2 141 [.ref 65, .int a1, .int a2] cs1 (some (.int r), cs2)) (l1 : cs1.length = 95) (l2 : cs2.length = 95) (hrv : ∀ l, ab_rv ab_G 6 (.ref 65 :: l) cs1 = true) : Ef (3, ab_Tb ++ [[a0, a1, a2, a3, a4, a5]]) 8 mL_law (27, [some (.ref 1000002), some (.ref 0), some (.ref 65), some (.int 0)], [], w0) (some (.int 1), cs2) := by
  have hw : w0.length = 95 := rfl
  refine E_aload_n rfl rfl ?_
  refine E_iload_n rfl rfl ?_
  refine E_tload (x := a0) (j := 0) (t := 2) rfl rfl rfl (by decide) rfl (by decide) (by decide) rfl ?_
  refine E_bipush (x := 63) rfl (by decide) ?_
  refine E_iand (z := 6) rfl h0 ?_
  refine E_tsIn (off := 440) (t := 473) rfl (by decide) rfl rfl ?_
  refine E_aload_n rfl rfl ?_
  refine E_aload_n rfl rfl ?_
  refine E_iload_n rfl rfl ?_
  refine E_iconst (x := 1) rfl (by decide) ?_
  refine E_iadd (z := 1) rfl (by decide) ?_
  refine E_tload (x := a1) (j := 1) (t := 2) rfl rfl rfl (by decide) rfl (by decide) (by decide) rfl ?_
  refine E_aload_n rfl rfl ?_
  refine E_iload_n rfl rfl ?_
  refine E_iconst (x := 2) rfl (by decide) ?_
  refine E_iadd (z := 2) rfl (by decide) ?_
  refine E_tload (x := a2) (j := 2) (t := 2) rfl rfl rfl (by decide) rfl (by decide) (by decide) rfl ?_
  refine E_callV (v := some (.int r)) (As := [.ref 0, .int a1, .int a2]) (r0 := []) (cs2 := cs1) rfl rfl rfl (Nat.le_of_ble_eq_true rfl) rfl rfl hx (by decide) (by omega) ?_
  refine E_aload_n rfl rfl ?_
  refine E_aload_n rfl rfl ?_
  refine E_iload_n rfl rfl ?_
  refine E_iconst (x := 1) rfl (by decide) ?_
  refine E_iadd (z := 1) rfl (by decide) ?_
  refine E_tload (x := a1) (j := 1) (t := 2) rfl (List.getElem?_eq_none (by omega)) rfl (by decide) rfl (by decide) (by decide) rfl ?_
  refine E_aload_n rfl rfl ?_
  refine E_iload_n rfl rfl ?_
  refine E_iconst (x := 2) rfl (by decide) ?_
  refine E_iadd (z := 2) rfl (by decide) ?_
  refine E_tload (x := a2) (j := 2) (t := 2) rfl (List.getElem?_eq_none (by omega)) rfl (by decide) rfl (by decide) (by decide) rfl ?_
  refine E_callV (v := some (.int r)) (As := [.ref 65, .int a1, .int a2]) (r0 := [.int r]) (cs2 := cs2) rfl rfl rfl (Nat.le_of_ble_eq_true rfl) rfl (hrv _) hm (by decide) (by omega) ?_
  refine E_ic (t := 1452) (b := true) rfl rfl (decide_eq_true rfl) ?_
  refine E_iinc (y := 6) (L2 := [some (.ref 1000002), some (.ref 0), some (.ref 65), some (.int 6)]) rfl rfl (by decide) rfl ?_
  refine E_goto (t := 18) rfl rfl ?_
  refine E_iload_n rfl rfl ?_
  refine E_aload_n rfl rfl ?_
  refine E_tlen (n := 6) (t := 2) rfl (List.getElem?_eq_none (by omega)) rfl (by decide) rfl rfl ?_
  refine E_bipush (x := 6) rfl (by decide) ?_
  refine E_isub (z := 0) rfl (by decide) ?_
  refine E_ic (t := 1458) (b := true) rfl rfl (by decide) ?_
  refine E_iconst (x := 1) rfl (by decide) ?_
  exact E_iret rfl rfl
theorem law_7 {a0 a1 a2 a3 a4 a5 : Int32} (h0 : a0 &&& 63 = 7) {r : Int32} {cs1 cs2 : List ab_C} (hx : Ev ab_Z0 3 83 [.ref 0, .int a1, .int a2, .int a3] w0 (some (.int r), cs1)) (hm : Ev ab_Z0 2 148 [.ref 65, .int a1, .int a2, .int a3] cs1 (some (.int r), cs2)) (l1 : cs1.length = 95) (l2 : cs2.length = 95) (hrv : ∀ l, ab_rv ab_G 6 (.ref 65 :: l) cs1 = true) : Ef (3, ab_Tb ++ [[a0, a1, a2, a3, a4, a5]]) 8 mL_law (27, [some (.ref 1000002), some (.ref 0), some (.ref 65), some (.int 0)], [], w0) (some (.int 1), cs2) := by
  have hw : w0.length = 95 := rfl
  refine E_aload_n rfl rfl ?_
  refine E_iload_n rfl rfl ?_
  refine E_tload (x := a0) (j := 0) (t := 2) rfl rfl rfl (by decide) rfl (by decide) (by decide) rfl ?_
  refine E_bipush (x := 63) rfl (by decide) ?_
  refine E_iand (z := 7) rfl h0 ?_
  refine E_tsIn (off := 473) (t := 506) rfl (by decide) rfl rfl ?_
  refine E_aload_n rfl rfl ?_
  refine E_aload_n rfl rfl ?_
  refine E_iload_n rfl rfl ?_
  refine E_iconst (x := 1) rfl (by decide) ?_
  refine E_iadd (z := 1) rfl (by decide) ?_
  refine E_tload (x := a1) (j := 1) (t := 2) rfl rfl rfl (by decide) rfl (by decide) (by decide) rfl ?_
  refine E_aload_n rfl rfl ?_
  refine E_iload_n rfl rfl ?_
  refine E_iconst (x := 2) rfl (by decide) ?_
  refine E_iadd (z := 2) rfl (by decide) ?_
  refine E_tload (x := a2) (j := 2) (t := 2) rfl rfl rfl (by decide) rfl (by decide) (by decide) rfl ?_
  refine E_aload_n rfl rfl ?_
  refine E_iload_n rfl rfl ?_
  refine E_iconst (x := 3) rfl (by decide) ?_
  refine E_iadd (z := 3) rfl (by decide) ?_
  refine E_tload (x := a3) (j := 3) (t := 2) rfl rfl rfl (by decide) rfl (by decide) (by decide) rfl ?_
  refine E_callV (v := some (.int r)) (As := [.ref 0, .int a1, .int a2, .int a3]) (r0 := []) (cs2 := cs1) rfl rfl rfl (Nat.le_of_ble_eq_true rfl) rfl rfl hx (by decide) (by omega) ?_
  refine E_aload_n rfl rfl ?_
  refine E_aload_n rfl rfl ?_
  refine E_iload_n rfl rfl ?_
  refine E_iconst (x := 1) rfl (by decide) ?_
  refine E_iadd (z := 1) rfl (by decide) ?_
  refine E_tload (x := a1) (j := 1) (t := 2) rfl (List.getElem?_eq_none (by omega)) rfl (by decide) rfl (by decide) (by decide) rfl ?_
  refine E_aload_n rfl rfl ?_
  refine E_iload_n rfl rfl ?_
  refine E_iconst (x := 2) rfl (by decide) ?_
  refine E_iadd (z := 2) rfl (by decide) ?_
  refine E_tload (x := a2) (j := 2) (t := 2) rfl (List.getElem?_eq_none (by omega)) rfl (by decide) rfl (by decide) (by decide) rfl ?_
  refine E_aload_n rfl rfl ?_
  refine E_iload_n rfl rfl ?_
  refine E_iconst (x := 3) rfl (by decide) ?_
  refine E_iadd (z := 3) rfl (by decide) ?_
  refine E_tload (x := a3) (j := 3) (t := 2) rfl (List.getElem?_eq_none (by omega)) rfl (by decide) rfl (by decide) (by decide) rfl ?_
  refine E_callV (v := some (.int r)) (As := [.ref 65, .int a1, .int a2, .int a3]) (r0 := [.int r]) (cs2 := cs2) rfl rfl rfl (Nat.le_of_ble_eq_true rfl) rfl (hrv _) hm (by decide) (by omega) ?_
  refine E_ic (t := 1452) (b := true) rfl rfl (decide_eq_true rfl) ?_
  refine E_iinc (y := 6) (L2 := [some (.ref 1000002), some (.ref 0), some (.ref 65), some (.int 6)]) rfl rfl (by decide) rfl ?_
  refine E_goto (t := 18) rfl rfl ?_
  refine E_iload_n rfl rfl ?_
  refine E_aload_n rfl rfl ?_
  refine E_tlen (n := 6) (t := 2) rfl (List.getElem?_eq_none (by omega)) rfl (by decide) rfl rfl ?_
  refine E_bipush (x := 6) rfl (by decide) ?_
  refine E_isub (z := 0) rfl (by decide) ?_
  refine E_ic (t := 1458) (b := true) rfl rfl (by decide) ?_
  refine E_iconst (x := 1) rfl (by decide) ?_
  exact E_iret rfl rfl
theorem law_8 {a0 a1 a2 a3 a4 a5 : Int32} (h0 : a0 &&& 63 = 8) {r : Int32} {cs1 cs2 : List ab_C} (hx : Ev ab_Z0 3 84 [.ref 0, .int a1, .int a2, .int a3] w0 (some (.int r), cs1)) (hm : Ev ab_Z0 2 149 [.ref 65, .int a1, .int a2, .int a3] cs1 (some (.int r), cs2)) (l1 : cs1.length = 95) (l2 : cs2.length = 95) (hrv : ∀ l, ab_rv ab_G 6 (.ref 65 :: l) cs1 = true) : Ef (3, ab_Tb ++ [[a0, a1, a2, a3, a4, a5]]) 8 mL_law (27, [some (.ref 1000002), some (.ref 0), some (.ref 65), some (.int 0)], [], w0) (some (.int 1), cs2) := by
  have hw : w0.length = 95 := rfl
  refine E_aload_n rfl rfl ?_
  refine E_iload_n rfl rfl ?_
  refine E_tload (x := a0) (j := 0) (t := 2) rfl rfl rfl (by decide) rfl (by decide) (by decide) rfl ?_
  refine E_bipush (x := 63) rfl (by decide) ?_
  refine E_iand (z := 8) rfl h0 ?_
  refine E_tsIn (off := 516) (t := 549) rfl (by decide) rfl rfl ?_
  refine E_aload_n rfl rfl ?_
  refine E_aload_n rfl rfl ?_
  refine E_iload_n rfl rfl ?_
  refine E_iconst (x := 1) rfl (by decide) ?_
  refine E_iadd (z := 1) rfl (by decide) ?_
  refine E_tload (x := a1) (j := 1) (t := 2) rfl rfl rfl (by decide) rfl (by decide) (by decide) rfl ?_
  refine E_aload_n rfl rfl ?_
  refine E_iload_n rfl rfl ?_
  refine E_iconst (x := 2) rfl (by decide) ?_
  refine E_iadd (z := 2) rfl (by decide) ?_
  refine E_tload (x := a2) (j := 2) (t := 2) rfl rfl rfl (by decide) rfl (by decide) (by decide) rfl ?_
  refine E_aload_n rfl rfl ?_
  refine E_iload_n rfl rfl ?_
  refine E_iconst (x := 3) rfl (by decide) ?_
  refine E_iadd (z := 3) rfl (by decide) ?_
  refine E_tload (x := a3) (j := 3) (t := 2) rfl rfl rfl (by decide) rfl (by decide) (by decide) rfl ?_
  refine E_callV (v := some (.int r)) (As := [.ref 0, .int a1, .int a2, .int a3]) (r0 := []) (cs2 := cs1) rfl rfl rfl (Nat.le_of_ble_eq_true rfl) rfl rfl hx (by decide) (by omega) ?_
  refine E_aload_n rfl rfl ?_
  refine E_aload_n rfl rfl ?_
  refine E_iload_n rfl rfl ?_
  refine E_iconst (x := 1) rfl (by decide) ?_
  refine E_iadd (z := 1) rfl (by decide) ?_
  refine E_tload (x := a1) (j := 1) (t := 2) rfl (List.getElem?_eq_none (by omega)) rfl (by decide) rfl (by decide) (by decide) rfl ?_
  refine E_aload_n rfl rfl ?_
  refine E_iload_n rfl rfl ?_
  refine E_iconst (x := 2) rfl (by decide) ?_
  refine E_iadd (z := 2) rfl (by decide) ?_
  refine E_tload (x := a2) (j := 2) (t := 2) rfl (List.getElem?_eq_none (by omega)) rfl (by decide) rfl (by decide) (by decide) rfl ?_
  refine E_aload_n rfl rfl ?_
  refine E_iload_n rfl rfl ?_
  refine E_iconst (x := 3) rfl (by decide) ?_
  refine E_iadd (z := 3) rfl (by decide) ?_
  refine E_tload (x := a3) (j := 3) (t := 2) rfl (List.getElem?_eq_none (by omega)) rfl (by decide) rfl (by decide) (by decide) rfl ?_
  refine E_callV (v := some (.int r)) (As := [.ref 65, .int a1, .int a2, .int a3]) (r0 := [.int r]) (cs2 := cs2) rfl rfl rfl (Nat.le_of_ble_eq_true rfl) rfl (hrv _) hm (by decide) (by omega) ?_
  refine E_ic (t := 1452) (b := true) rfl rfl (decide_eq_true rfl) ?_
  refine E_iinc (y := 6) (L2 := [some (.ref 1000002), some (.ref 0), some (.ref 65), some (.int 6)]) rfl rfl (by decide) rfl ?_
  refine E_goto (t := 18) rfl rfl ?_
  refine E_iload_n rfl rfl ?_
  refine E_aload_n rfl rfl ?_
  refine E_tlen (n := 6) (t := 2) rfl (List.getElem?_eq_none (by omega)) rfl (by decide) rfl rfl ?_
  refine E_bipush (x := 6) rfl (by decide) ?_
  refine E_isub (z := 0) rfl (by decide) ?_
  refine E_ic (t := 1458) (b := true) rfl rfl (by decide) ?_
  refine E_iconst (x := 1) rfl (by decide) ?_
  exact E_iret rfl rfl
theorem law_9 {a0 a1 a2 a3 a4 a5 : Int32} (h0 : a0 &&& 63 = 9) {r : Int32} {cs1 cs2 : List ab_C} (hx : Ev ab_Z0 3 85 [.ref 0, .int a1, .int a2] w0 (some (.int r), cs1)) (hm : Ev ab_Z0 2 150 [.ref 65, .int a1, .int a2] cs1 (some (.int r), cs2)) (l1 : cs1.length = 95) (l2 : cs2.length = 95) (hrv : ∀ l, ab_rv ab_G 6 (.ref 65 :: l) cs1 = true) : Ef (3, ab_Tb ++ [[a0, a1, a2, a3, a4, a5]]) 8 mL_law (27, [some (.ref 1000002), some (.ref 0), some (.ref 65), some (.int 0)], [], w0) (some (.int 1), cs2) := by
  have hw : w0.length = 95 := rfl
  refine E_aload_n rfl rfl ?_
  refine E_iload_n rfl rfl ?_
  refine E_tload (x := a0) (j := 0) (t := 2) rfl rfl rfl (by decide) rfl (by decide) (by decide) rfl ?_
  refine E_bipush (x := 63) rfl (by decide) ?_
  refine E_iand (z := 9) rfl h0 ?_
  refine E_tsIn (off := 559) (t := 592) rfl (by decide) rfl rfl ?_
  refine E_aload_n rfl rfl ?_
  refine E_aload_n rfl rfl ?_
  refine E_iload_n rfl rfl ?_
  refine E_iconst (x := 1) rfl (by decide) ?_
  refine E_iadd (z := 1) rfl (by decide) ?_
  refine E_tload (x := a1) (j := 1) (t := 2) rfl rfl rfl (by decide) rfl (by decide) (by decide) rfl ?_
  refine E_aload_n rfl rfl ?_
  refine E_iload_n rfl rfl ?_
  refine E_iconst (x := 2) rfl (by decide) ?_
  refine E_iadd (z := 2) rfl (by decide) ?_
  refine E_tload (x := a2) (j := 2) (t := 2) rfl rfl rfl (by decide) rfl (by decide) (by decide) rfl ?_
  refine E_callV (v := some (.int r)) (As := [.ref 0, .int a1, .int a2]) (r0 := []) (cs2 := cs1) rfl rfl rfl (Nat.le_of_ble_eq_true rfl) rfl rfl hx (by decide) (by omega) ?_
  refine E_aload_n rfl rfl ?_
  refine E_aload_n rfl rfl ?_
  refine E_iload_n rfl rfl ?_
  refine E_iconst (x := 1) rfl (by decide) ?_
  refine E_iadd (z := 1) rfl (by decide) ?_
  refine E_tload (x := a1) (j := 1) (t := 2) rfl (List.getElem?_eq_none (by omega)) rfl (by decide) rfl (by decide) (by decide) rfl ?_
  refine E_aload_n rfl rfl ?_
  refine E_iload_n rfl rfl ?_
  refine E_iconst (x := 2) rfl (by decide) ?_
  refine E_iadd (z := 2) rfl (by decide) ?_
  refine E_tload (x := a2) (j := 2) (t := 2) rfl (List.getElem?_eq_none (by omega)) rfl (by decide) rfl (by decide) (by decide) rfl ?_
  refine E_callV (v := some (.int r)) (As := [.ref 65, .int a1, .int a2]) (r0 := [.int r]) (cs2 := cs2) rfl rfl rfl (Nat.le_of_ble_eq_true rfl) rfl (hrv _) hm (by decide) (by omega) ?_
  refine E_ic (t := 1452) (b := true) rfl rfl (decide_eq_true rfl) ?_
  refine E_iinc (y := 6) (L2 := [some (.ref 1000002), some (.ref 0), some (.ref 65), some (.int 6)]) rfl rfl (by decide) rfl ?_
  refine E_goto (t := 18) rfl rfl ?_
  refine E_iload_n rfl rfl ?_
  refine E_aload_n rfl rfl ?_
  refine E_tlen (n := 6) (t := 2) rfl (List.getElem?_eq_none (by omega)) rfl (by decide) rfl rfl ?_
  refine E_bipush (x := 6) rfl (by decide) ?_
  refine E_isub (z := 0) rfl (by decide) ?_
  refine E_ic (t := 1458) (b := true) rfl rfl (by decide) ?_
  refine E_iconst (x := 1) rfl (by decide) ?_
  exact E_iret rfl rfl
theorem law_10 {a0 a1 a2 a3 a4 a5 : Int32} (h0 : a0 &&& 63 = 10) {r : Int32} {cs1 cs2 : List ab_C} (hx : Ev ab_Z0 3 86 [.ref 0, .int a1] w0 (some (.int r), cs1)) (hm : Ev ab_Z0 2 151 [.ref 65, .int a1] cs1 (some (.int r), cs2)) (l1 : cs1.length = 95) (l2 : cs2.length = 95) (hrv : ∀ l, ab_rv ab_G 6 (.ref 65 :: l) cs1 = true) : Ef (3, ab_Tb ++ [[a0, a1, a2, a3, a4, a5]]) 8 mL_law (27, [some (.ref 1000002), some (.ref 0), some (.ref 65), some (.int 0)], [], w0) (some (.int 1), cs2) := by
  have hw : w0.length = 95 := rfl
  refine E_aload_n rfl rfl ?_
  refine E_iload_n rfl rfl ?_
  refine E_tload (x := a0) (j := 0) (t := 2) rfl rfl rfl (by decide) rfl (by decide) (by decide) rfl ?_
  refine E_bipush (x := 63) rfl (by decide) ?_
  refine E_iand (z := 10) rfl h0 ?_
  refine E_tsIn (off := 592) (t := 625) rfl (by decide) rfl rfl ?_
  refine E_aload_n rfl rfl ?_
  refine E_aload_n rfl rfl ?_
  refine E_iload_n rfl rfl ?_
  refine E_iconst (x := 1) rfl (by decide) ?_
  refine E_iadd (z := 1) rfl (by decide) ?_
  refine E_tload (x := a1) (j := 1) (t := 2) rfl rfl rfl (by decide) rfl (by decide) (by decide) rfl ?_
  refine E_callV (v := some (.int r)) (As := [.ref 0, .int a1]) (r0 := []) (cs2 := cs1) rfl rfl rfl (Nat.le_of_ble_eq_true rfl) rfl rfl hx (by decide) (by omega) ?_
  refine E_aload_n rfl rfl ?_
  refine E_aload_n rfl rfl ?_
  refine E_iload_n rfl rfl ?_
  refine E_iconst (x := 1) rfl (by decide) ?_
  refine E_iadd (z := 1) rfl (by decide) ?_
  refine E_tload (x := a1) (j := 1) (t := 2) rfl (List.getElem?_eq_none (by omega)) rfl (by decide) rfl (by decide) (by decide) rfl ?_
  refine E_callV (v := some (.int r)) (As := [.ref 65, .int a1]) (r0 := [.int r]) (cs2 := cs2) rfl rfl rfl (Nat.le_of_ble_eq_true rfl) rfl (hrv _) hm (by decide) (by omega) ?_
  refine E_ic (t := 1452) (b := true) rfl rfl (decide_eq_true rfl) ?_
  refine E_iinc (y := 6) (L2 := [some (.ref 1000002), some (.ref 0), some (.ref 65), some (.int 6)]) rfl rfl (by decide) rfl ?_
  refine E_goto (t := 18) rfl rfl ?_
  refine E_iload_n rfl rfl ?_
  refine E_aload_n rfl rfl ?_
  refine E_tlen (n := 6) (t := 2) rfl (List.getElem?_eq_none (by omega)) rfl (by decide) rfl rfl ?_
  refine E_bipush (x := 6) rfl (by decide) ?_
  refine E_isub (z := 0) rfl (by decide) ?_
  refine E_ic (t := 1458) (b := true) rfl rfl (by decide) ?_
  refine E_iconst (x := 1) rfl (by decide) ?_
  exact E_iret rfl rfl
theorem law_11 {a0 a1 a2 a3 a4 a5 : Int32} (h0 : a0 &&& 63 = 11) {r : Int32} {cs1 cs2 : List ab_C} (hx : Ev ab_Z0 4 87 [.ref 0, .int a1, .int a2, .int a3] w0 (some (.int r), cs1)) (hm : Ev ab_Z0 2 152 [.ref 65, .int a1, .int a2, .int a3] cs1 (some (.int r), cs2)) (l1 : cs1.length = 95) (l2 : cs2.length = 95) (hrv : ∀ l, ab_rv ab_G 6 (.ref 65 :: l) cs1 = true) : Ef (3, ab_Tb ++ [[a0, a1, a2, a3, a4, a5]]) 8 mL_law (27, [some (.ref 1000002), some (.ref 0), some (.ref 65), some (.int 0)], [], w0) (some (.int 1), cs2) := by
  have hw : w0.length = 95 := rfl
  refine E_aload_n rfl rfl ?_
  refine E_iload_n rfl rfl ?_
  refine E_tload (x := a0) (j := 0) (t := 2) rfl rfl rfl (by decide) rfl (by decide) (by decide) rfl ?_
  refine E_bipush (x := 63) rfl (by decide) ?_
  refine E_iand (z := 11) rfl h0 ?_
  refine E_tsIn (off := 615) (t := 648) rfl (by decide) rfl rfl ?_
  refine E_aload_n rfl rfl ?_
  refine E_aload_n rfl rfl ?_
  refine E_iload_n rfl rfl ?_
  refine E_iconst (x := 1) rfl (by decide) ?_
  refine E_iadd (z := 1) rfl (by decide) ?_
  refine E_tload (x := a1) (j := 1) (t := 2) rfl rfl rfl (by decide) rfl (by decide) (by decide) rfl ?_
  refine E_aload_n rfl rfl ?_
  refine E_iload_n rfl rfl ?_
  refine E_iconst (x := 2) rfl (by decide) ?_
  refine E_iadd (z := 2) rfl (by decide) ?_
  refine E_tload (x := a2) (j := 2) (t := 2) rfl rfl rfl (by decide) rfl (by decide) (by decide) rfl ?_
  refine E_aload_n rfl rfl ?_
  refine E_iload_n rfl rfl ?_
  refine E_iconst (x := 3) rfl (by decide) ?_
  refine E_iadd (z := 3) rfl (by decide) ?_
  refine E_tload (x := a3) (j := 3) (t := 2) rfl rfl rfl (by decide) rfl (by decide) (by decide) rfl ?_
  refine E_callV (v := some (.int r)) (As := [.ref 0, .int a1, .int a2, .int a3]) (r0 := []) (cs2 := cs1) rfl rfl rfl (Nat.le_of_ble_eq_true rfl) rfl rfl hx (by decide) (by omega) ?_
  refine E_aload_n rfl rfl ?_
  refine E_aload_n rfl rfl ?_
  refine E_iload_n rfl rfl ?_
  refine E_iconst (x := 1) rfl (by decide) ?_
  refine E_iadd (z := 1) rfl (by decide) ?_
  refine E_tload (x := a1) (j := 1) (t := 2) rfl (List.getElem?_eq_none (by omega)) rfl (by decide) rfl (by decide) (by decide) rfl ?_
  refine E_aload_n rfl rfl ?_
  refine E_iload_n rfl rfl ?_
  refine E_iconst (x := 2) rfl (by decide) ?_
  refine E_iadd (z := 2) rfl (by decide) ?_
  refine E_tload (x := a2) (j := 2) (t := 2) rfl (List.getElem?_eq_none (by omega)) rfl (by decide) rfl (by decide) (by decide) rfl ?_
  refine E_aload_n rfl rfl ?_
  refine E_iload_n rfl rfl ?_
  refine E_iconst (x := 3) rfl (by decide) ?_
  refine E_iadd (z := 3) rfl (by decide) ?_
  refine E_tload (x := a3) (j := 3) (t := 2) rfl (List.getElem?_eq_none (by omega)) rfl (by decide) rfl (by decide) (by decide) rfl ?_
  refine E_callV (v := some (.int r)) (As := [.ref 65, .int a1, .int a2, .int a3]) (r0 := [.int r]) (cs2 := cs2) rfl rfl rfl (Nat.le_of_ble_eq_true rfl) rfl (hrv _) hm (by decide) (by omega) ?_
  refine E_ic (t := 1452) (b := true) rfl rfl (decide_eq_true rfl) ?_
  refine E_iinc (y := 6) (L2 := [some (.ref 1000002), some (.ref 0), some (.ref 65), some (.int 6)]) rfl rfl (by decide) rfl ?_
  refine E_goto (t := 18) rfl rfl ?_
  refine E_iload_n rfl rfl ?_
  refine E_aload_n rfl rfl ?_
  refine E_tlen (n := 6) (t := 2) rfl (List.getElem?_eq_none (by omega)) rfl (by decide) rfl rfl ?_
  refine E_bipush (x := 6) rfl (by decide) ?_
  refine E_isub (z := 0) rfl (by decide) ?_
  refine E_ic (t := 1458) (b := true) rfl rfl (by decide) ?_
  refine E_iconst (x := 1) rfl (by decide) ?_
  exact E_iret rfl rfl
theorem law_12 {a0 a1 a2 a3 a4 a5 : Int32} (h0 : a0 &&& 63 = 12) {r : Int32} {cs1 cs2 : List ab_C} (hx : Ev ab_Z0 3 88 [.ref 0, .int a1, .int a2] w0 (some (.int r), cs1)) (hm : Ev ab_Z0 2 154 [.ref 65, .int a1, .int a2] cs1 (some (.int r), cs2)) (l1 : cs1.length = 95) (l2 : cs2.length = 95) (hrv : ∀ l, ab_rv ab_G 6 (.ref 65 :: l) cs1 = true) : Ef (3, ab_Tb ++ [[a0, a1, a2, a3, a4, a5]]) 8 mL_law (27, [some (.ref 1000002), some (.ref 0), some (.ref 65), some (.int 0)], [], w0) (some (.int 1), cs2) := by
  have hw : w0.length = 95 := rfl
  refine E_aload_n rfl rfl ?_
  refine E_iload_n rfl rfl ?_
  refine E_tload (x := a0) (j := 0) (t := 2) rfl rfl rfl (by decide) rfl (by decide) (by decide) rfl ?_
  refine E_bipush (x := 63) rfl (by decide) ?_
  refine E_iand (z := 12) rfl h0 ?_
  refine E_tsIn (off := 658) (t := 691) rfl (by decide) rfl rfl ?_
  refine E_aload_n rfl rfl ?_
  refine E_aload_n rfl rfl ?_
  refine E_iload_n rfl rfl ?_
  refine E_iconst (x := 1) rfl (by decide) ?_
  refine E_iadd (z := 1) rfl (by decide) ?_
  refine E_tload (x := a1) (j := 1) (t := 2) rfl rfl rfl (by decide) rfl (by decide) (by decide) rfl ?_
  refine E_aload_n rfl rfl ?_
  refine E_iload_n rfl rfl ?_
  refine E_iconst (x := 2) rfl (by decide) ?_
  refine E_iadd (z := 2) rfl (by decide) ?_
  refine E_tload (x := a2) (j := 2) (t := 2) rfl rfl rfl (by decide) rfl (by decide) (by decide) rfl ?_
  refine E_callV (v := some (.int r)) (As := [.ref 0, .int a1, .int a2]) (r0 := []) (cs2 := cs1) rfl rfl rfl (Nat.le_of_ble_eq_true rfl) rfl rfl hx (by decide) (by omega) ?_
  refine E_aload_n rfl rfl ?_
  refine E_aload_n rfl rfl ?_
  refine E_iload_n rfl rfl ?_
  refine E_iconst (x := 1) rfl (by decide) ?_
  refine E_iadd (z := 1) rfl (by decide) ?_
  refine E_tload (x := a1) (j := 1) (t := 2) rfl (List.getElem?_eq_none (by omega)) rfl (by decide) rfl (by decide) (by decide) rfl ?_
  refine E_aload_n rfl rfl ?_
  refine E_iload_n rfl rfl ?_
  refine E_iconst (x := 2) rfl (by decide) ?_
  refine E_iadd (z := 2) rfl (by decide) ?_
  refine E_tload (x := a2) (j := 2) (t := 2) rfl (List.getElem?_eq_none (by omega)) rfl (by decide) rfl (by decide) (by decide) rfl ?_
  refine E_callV (v := some (.int r)) (As := [.ref 65, .int a1, .int a2]) (r0 := [.int r]) (cs2 := cs2) rfl rfl rfl (Nat.le_of_ble_eq_true rfl) rfl (hrv _) hm (by decide) (by omega) ?_
  refine E_ic (t := 1452) (b := true) rfl rfl (decide_eq_true rfl) ?_
  refine E_iinc (y := 6) (L2 := [some (.ref 1000002), some (.ref 0), some (.ref 65), some (.int 6)]) rfl rfl (by decide) rfl ?_
  refine E_goto (t := 18) rfl rfl ?_
  refine E_iload_n rfl rfl ?_
  refine E_aload_n rfl rfl ?_
  refine E_tlen (n := 6) (t := 2) rfl (List.getElem?_eq_none (by omega)) rfl (by decide) rfl rfl ?_
  refine E_bipush (x := 6) rfl (by decide) ?_
  refine E_isub (z := 0) rfl (by decide) ?_
  refine E_ic (t := 1458) (b := true) rfl rfl (by decide) ?_
  refine E_iconst (x := 1) rfl (by decide) ?_
  exact E_iret rfl rfl
theorem law_13 {a0 a1 a2 a3 a4 a5 : Int32} (h0 : a0 &&& 63 = 13) {r : Int32} {cs1 cs2 : List ab_C} (hx : Ev ab_Z0 3 89 [.ref 0, .int a1, .int a2] w0 (some (.int r), cs1)) (hm : Ev ab_Z0 2 155 [.ref 65, .int a1, .int a2] cs1 (some (.int r), cs2)) (l1 : cs1.length = 95) (l2 : cs2.length = 95) (hrv : ∀ l, ab_rv ab_G 6 (.ref 65 :: l) cs1 = true) : Ef (3, ab_Tb ++ [[a0, a1, a2, a3, a4, a5]]) 8 mL_law (27, [some (.ref 1000002), some (.ref 0), some (.ref 65), some (.int 0)], [], w0) (some (.int 1), cs2) := by
  have hw : w0.length = 95 := rfl
  refine E_aload_n rfl rfl ?_
  refine E_iload_n rfl rfl ?_
  refine E_tload (x := a0) (j := 0) (t := 2) rfl rfl rfl (by decide) rfl (by decide) (by decide) rfl ?_
  refine E_bipush (x := 63) rfl (by decide) ?_
  refine E_iand (z := 13) rfl h0 ?_
  refine E_tsIn (off := 691) (t := 724) rfl (by decide) rfl rfl ?_
  refine E_aload_n rfl rfl ?_
  refine E_aload_n rfl rfl ?_
  refine E_iload_n rfl rfl ?_
  refine E_iconst (x := 1) rfl (by decide) ?_
  refine E_iadd (z := 1) rfl (by decide) ?_
  refine E_tload (x := a1) (j := 1) (t := 2) rfl rfl rfl (by decide) rfl (by decide) (by decide) rfl ?_
  refine E_aload_n rfl rfl ?_
  refine E_iload_n rfl rfl ?_
  refine E_iconst (x := 2) rfl (by decide) ?_
  refine E_iadd (z := 2) rfl (by decide) ?_
  refine E_tload (x := a2) (j := 2) (t := 2) rfl rfl rfl (by decide) rfl (by decide) (by decide) rfl ?_
  refine E_callV (v := some (.int r)) (As := [.ref 0, .int a1, .int a2]) (r0 := []) (cs2 := cs1) rfl rfl rfl (Nat.le_of_ble_eq_true rfl) rfl rfl hx (by decide) (by omega) ?_
  refine E_aload_n rfl rfl ?_
  refine E_aload_n rfl rfl ?_
  refine E_iload_n rfl rfl ?_
  refine E_iconst (x := 1) rfl (by decide) ?_
  refine E_iadd (z := 1) rfl (by decide) ?_
  refine E_tload (x := a1) (j := 1) (t := 2) rfl (List.getElem?_eq_none (by omega)) rfl (by decide) rfl (by decide) (by decide) rfl ?_
  refine E_aload_n rfl rfl ?_
  refine E_iload_n rfl rfl ?_
  refine E_iconst (x := 2) rfl (by decide) ?_
  refine E_iadd (z := 2) rfl (by decide) ?_
  refine E_tload (x := a2) (j := 2) (t := 2) rfl (List.getElem?_eq_none (by omega)) rfl (by decide) rfl (by decide) (by decide) rfl ?_
  refine E_callV (v := some (.int r)) (As := [.ref 65, .int a1, .int a2]) (r0 := [.int r]) (cs2 := cs2) rfl rfl rfl (Nat.le_of_ble_eq_true rfl) rfl (hrv _) hm (by decide) (by omega) ?_
  refine E_ic (t := 1452) (b := true) rfl rfl (decide_eq_true rfl) ?_
  refine E_iinc (y := 6) (L2 := [some (.ref 1000002), some (.ref 0), some (.ref 65), some (.int 6)]) rfl rfl (by decide) rfl ?_
  refine E_goto (t := 18) rfl rfl ?_
  refine E_iload_n rfl rfl ?_
  refine E_aload_n rfl rfl ?_
  refine E_tlen (n := 6) (t := 2) rfl (List.getElem?_eq_none (by omega)) rfl (by decide) rfl rfl ?_
  refine E_bipush (x := 6) rfl (by decide) ?_
  refine E_isub (z := 0) rfl (by decide) ?_
  refine E_ic (t := 1458) (b := true) rfl rfl (by decide) ?_
  refine E_iconst (x := 1) rfl (by decide) ?_
  exact E_iret rfl rfl
theorem law_14 {a0 a1 a2 a3 a4 a5 : Int32} (h0 : a0 &&& 63 = 14) {r : Int32} {cs1 cs2 : List ab_C} (hx : Ev ab_Z0 7 90 [.ref 0, .int a1] w0 (some (.int r), cs1)) (hm : Ev ab_Z0 4 165 [.ref 65, .int a1] cs1 (some (.int r), cs2)) (l1 : cs1.length = 95) (l2 : cs2.length = 95) (hrv : ∀ l, ab_rv ab_G 6 (.ref 65 :: l) cs1 = true) : Ef (3, ab_Tb ++ [[a0, a1, a2, a3, a4, a5]]) 8 mL_law (27, [some (.ref 1000002), some (.ref 0), some (.ref 65), some (.int 0)], [], w0) (some (.int 1), cs2) := by
  have hw : w0.length = 95 := rfl
  refine E_aload_n rfl rfl ?_
  refine E_iload_n rfl rfl ?_
  refine E_tload (x := a0) (j := 0) (t := 2) rfl rfl rfl (by decide) rfl (by decide) (by decide) rfl ?_
  refine E_bipush (x := 63) rfl (by decide) ?_
  refine E_iand (z := 14) rfl h0 ?_
  refine E_tsIn (off := 724) (t := 757) rfl (by decide) rfl rfl ?_
  refine E_aload_n rfl rfl ?_
  refine E_aload_n rfl rfl ?_
  refine E_iload_n rfl rfl ?_
  refine E_iconst (x := 1) rfl (by decide) ?_
  refine E_iadd (z := 1) rfl (by decide) ?_
  refine E_tload (x := a1) (j := 1) (t := 2) rfl rfl rfl (by decide) rfl (by decide) (by decide) rfl ?_
  refine E_callV (v := some (.int r)) (As := [.ref 0, .int a1]) (r0 := []) (cs2 := cs1) rfl rfl rfl (Nat.le_of_ble_eq_true rfl) rfl rfl hx (by decide) (by omega) ?_
  refine E_aload_n rfl rfl ?_
  refine E_aload_n rfl rfl ?_
  refine E_iload_n rfl rfl ?_
  refine E_iconst (x := 1) rfl (by decide) ?_
  refine E_iadd (z := 1) rfl (by decide) ?_
  refine E_tload (x := a1) (j := 1) (t := 2) rfl (List.getElem?_eq_none (by omega)) rfl (by decide) rfl (by decide) (by decide) rfl ?_
  refine E_callV (v := some (.int r)) (As := [.ref 65, .int a1]) (r0 := [.int r]) (cs2 := cs2) rfl rfl rfl (Nat.le_of_ble_eq_true rfl) rfl (hrv _) hm (by decide) (by omega) ?_
  refine E_ic (t := 1452) (b := true) rfl rfl (decide_eq_true rfl) ?_
  refine E_iinc (y := 6) (L2 := [some (.ref 1000002), some (.ref 0), some (.ref 65), some (.int 6)]) rfl rfl (by decide) rfl ?_
  refine E_goto (t := 18) rfl rfl ?_
  refine E_iload_n rfl rfl ?_
  refine E_aload_n rfl rfl ?_
  refine E_tlen (n := 6) (t := 2) rfl (List.getElem?_eq_none (by omega)) rfl (by decide) rfl rfl ?_
  refine E_bipush (x := 6) rfl (by decide) ?_
  refine E_isub (z := 0) rfl (by decide) ?_
  refine E_ic (t := 1458) (b := true) rfl rfl (by decide) ?_
  refine E_iconst (x := 1) rfl (by decide) ?_
  exact E_iret rfl rfl
theorem law_15 {a0 a1 a2 a3 a4 a5 : Int32} (h0 : a0 &&& 63 = 15) {r : Int32} {cs1 cs2 : List ab_C} (hx : Ev ab_Z0 1 91 [.ref 0] w0 (some (.int r), cs1)) (hm : Ev ab_Z0 1 166 [.ref 65] cs1 (some (.int r), cs2)) (l1 : cs1.length = 95) (l2 : cs2.length = 95) (hrv : ∀ l, ab_rv ab_G 6 (.ref 65 :: l) cs1 = true) : Ef (3, ab_Tb ++ [[a0, a1, a2, a3, a4, a5]]) 8 mL_law (27, [some (.ref 1000002), some (.ref 0), some (.ref 65), some (.int 0)], [], w0) (some (.int 1), cs2) := by
  have hw : w0.length = 95 := rfl
  refine E_aload_n rfl rfl ?_
  refine E_iload_n rfl rfl ?_
  refine E_tload (x := a0) (j := 0) (t := 2) rfl rfl rfl (by decide) rfl (by decide) (by decide) rfl ?_
  refine E_bipush (x := 63) rfl (by decide) ?_
  refine E_iand (z := 15) rfl h0 ?_
  refine E_tsIn (off := 747) (t := 780) rfl (by decide) rfl rfl ?_
  refine E_aload_n rfl rfl ?_
  refine E_callV (v := some (.int r)) (As := [.ref 0]) (r0 := []) (cs2 := cs1) rfl rfl rfl (Nat.le_of_ble_eq_true rfl) rfl rfl hx (by decide) (by omega) ?_
  refine E_aload_n rfl rfl ?_
  refine E_callV (v := some (.int r)) (As := [.ref 65]) (r0 := [.int r]) (cs2 := cs2) rfl rfl rfl (Nat.le_of_ble_eq_true rfl) rfl (hrv _) hm (by decide) (by omega) ?_
  refine E_ic (t := 1452) (b := true) rfl rfl (decide_eq_true rfl) ?_
  refine E_iinc (y := 6) (L2 := [some (.ref 1000002), some (.ref 0), some (.ref 65), some (.int 6)]) rfl rfl (by decide) rfl ?_
  refine E_goto (t := 18) rfl rfl ?_
  refine E_iload_n rfl rfl ?_
  refine E_aload_n rfl rfl ?_
  refine E_tlen (n := 6) (t := 2) rfl (List.getElem?_eq_none (by omega)) rfl (by decide) rfl rfl ?_
  refine E_bipush (x := 6) rfl (by decide) ?_
  refine E_isub (z := 0) rfl (by decide) ?_
  refine E_ic (t := 1458) (b := true) rfl rfl (by decide) ?_
  refine E_iconst (x := 1) rfl (by decide) ?_
  exact E_iret rfl rfl
theorem law_16 {a0 a1 a2 a3 a4 a5 : Int32} (h0 : a0 &&& 63 = 16) {r : Int32} {cs1 cs2 : List ab_C} (hx : Ev ab_Z0 4 92 [.ref 0, .int a1, .int a2] w0 (some (.int r), cs1)) (hm : Ev ab_Z0 2 175 [.ref 65, .int a1, .int a2] cs1 (some (.int r), cs2)) (l1 : cs1.length = 95) (l2 : cs2.length = 95) (hrv : ∀ l, ab_rv ab_G 6 (.ref 65 :: l) cs1 = true) : Ef (3, ab_Tb ++ [[a0, a1, a2, a3, a4, a5]]) 8 mL_law (27, [some (.ref 1000002), some (.ref 0), some (.ref 65), some (.int 0)], [], w0) (some (.int 1), cs2) := by
  have hw : w0.length = 95 := rfl
  refine E_aload_n rfl rfl ?_
  refine E_iload_n rfl rfl ?_
  refine E_tload (x := a0) (j := 0) (t := 2) rfl rfl rfl (by decide) rfl (by decide) (by decide) rfl ?_
  refine E_bipush (x := 63) rfl (by decide) ?_
  refine E_iand (z := 16) rfl h0 ?_
  refine E_tsIn (off := 760) (t := 793) rfl (by decide) rfl rfl ?_
  refine E_aload_n rfl rfl ?_
  refine E_aload_n rfl rfl ?_
  refine E_iload_n rfl rfl ?_
  refine E_iconst (x := 1) rfl (by decide) ?_
  refine E_iadd (z := 1) rfl (by decide) ?_
  refine E_tload (x := a1) (j := 1) (t := 2) rfl rfl rfl (by decide) rfl (by decide) (by decide) rfl ?_
  refine E_aload_n rfl rfl ?_
  refine E_iload_n rfl rfl ?_
  refine E_iconst (x := 2) rfl (by decide) ?_
  refine E_iadd (z := 2) rfl (by decide) ?_
  refine E_tload (x := a2) (j := 2) (t := 2) rfl rfl rfl (by decide) rfl (by decide) (by decide) rfl ?_
  refine E_callV (v := some (.int r)) (As := [.ref 0, .int a1, .int a2]) (r0 := []) (cs2 := cs1) rfl rfl rfl (Nat.le_of_ble_eq_true rfl) rfl rfl hx (by decide) (by omega) ?_
  refine E_aload_n rfl rfl ?_
  refine E_aload_n rfl rfl ?_
  refine E_iload_n rfl rfl ?_
  refine E_iconst (x := 1) rfl (by decide) ?_
  refine E_iadd (z := 1) rfl (by decide) ?_
  refine E_tload (x := a1) (j := 1) (t := 2) rfl (List.getElem?_eq_none (by omega)) rfl (by decide) rfl (by decide) (by decide) rfl ?_
  refine E_aload_n rfl rfl ?_
  refine E_iload_n rfl rfl ?_
  refine E_iconst (x := 2) rfl (by decide) ?_
  refine E_iadd (z := 2) rfl (by decide) ?_
  refine E_tload (x := a2) (j := 2) (t := 2) rfl (List.getElem?_eq_none (by omega)) rfl (by decide) rfl (by decide) (by decide) rfl ?_
  refine E_callV (v := some (.int r)) (As := [.ref 65, .int a1, .int a2]) (r0 := [.int r]) (cs2 := cs2) rfl rfl rfl (Nat.le_of_ble_eq_true rfl) rfl (hrv _) hm (by decide) (by omega) ?_
  refine E_ic (t := 1452) (b := true) rfl rfl (decide_eq_true rfl) ?_
  refine E_iinc (y := 6) (L2 := [some (.ref 1000002), some (.ref 0), some (.ref 65), some (.int 6)]) rfl rfl (by decide) rfl ?_
  refine E_goto (t := 18) rfl rfl ?_
  refine E_iload_n rfl rfl ?_
  refine E_aload_n rfl rfl ?_
  refine E_tlen (n := 6) (t := 2) rfl (List.getElem?_eq_none (by omega)) rfl (by decide) rfl rfl ?_
  refine E_bipush (x := 6) rfl (by decide) ?_
  refine E_isub (z := 0) rfl (by decide) ?_
  refine E_ic (t := 1458) (b := true) rfl rfl (by decide) ?_
  refine E_iconst (x := 1) rfl (by decide) ?_
  exact E_iret rfl rfl
theorem law_17 {a0 a1 a2 a3 a4 a5 : Int32} (h0 : a0 &&& 63 = 17) {r : Int32} {cs1 cs2 : List ab_C} (hx : Ev ab_Z0 5 93 [.ref 0, .int a1, .int a2] w0 (some (.int r), cs1)) (hm : Ev ab_Z0 4 173 [.ref 65, .int a1, .int a2] cs1 (some (.int r), cs2)) (l1 : cs1.length = 95) (l2 : cs2.length = 95) (hrv : ∀ l, ab_rv ab_G 6 (.ref 65 :: l) cs1 = true) : Ef (3, ab_Tb ++ [[a0, a1, a2, a3, a4, a5]]) 8 mL_law (27, [some (.ref 1000002), some (.ref 0), some (.ref 65), some (.int 0)], [], w0) (some (.int 1), cs2) := by
  have hw : w0.length = 95 := rfl
  refine E_aload_n rfl rfl ?_
  refine E_iload_n rfl rfl ?_
  refine E_tload (x := a0) (j := 0) (t := 2) rfl rfl rfl (by decide) rfl (by decide) (by decide) rfl ?_
  refine E_bipush (x := 63) rfl (by decide) ?_
  refine E_iand (z := 17) rfl h0 ?_
  refine E_tsIn (off := 793) (t := 826) rfl (by decide) rfl rfl ?_
  refine E_aload_n rfl rfl ?_
  refine E_aload_n rfl rfl ?_
  refine E_iload_n rfl rfl ?_
  refine E_iconst (x := 1) rfl (by decide) ?_
  refine E_iadd (z := 1) rfl (by decide) ?_
  refine E_tload (x := a1) (j := 1) (t := 2) rfl rfl rfl (by decide) rfl (by decide) (by decide) rfl ?_
  refine E_aload_n rfl rfl ?_
  refine E_iload_n rfl rfl ?_
  refine E_iconst (x := 2) rfl (by decide) ?_
  refine E_iadd (z := 2) rfl (by decide) ?_
  refine E_tload (x := a2) (j := 2) (t := 2) rfl rfl rfl (by decide) rfl (by decide) (by decide) rfl ?_
  refine E_callV (v := some (.int r)) (As := [.ref 0, .int a1, .int a2]) (r0 := []) (cs2 := cs1) rfl rfl rfl (Nat.le_of_ble_eq_true rfl) rfl rfl hx (by decide) (by omega) ?_
  refine E_aload_n rfl rfl ?_
  refine E_aload_n rfl rfl ?_
  refine E_iload_n rfl rfl ?_
  refine E_iconst (x := 1) rfl (by decide) ?_
  refine E_iadd (z := 1) rfl (by decide) ?_
  refine E_tload (x := a1) (j := 1) (t := 2) rfl (List.getElem?_eq_none (by omega)) rfl (by decide) rfl (by decide) (by decide) rfl ?_
  refine E_aload_n rfl rfl ?_
  refine E_iload_n rfl rfl ?_
  refine E_iconst (x := 2) rfl (by decide) ?_
  refine E_iadd (z := 2) rfl (by decide) ?_
  refine E_tload (x := a2) (j := 2) (t := 2) rfl (List.getElem?_eq_none (by omega)) rfl (by decide) rfl (by decide) (by decide) rfl ?_
  refine E_callV (v := some (.int r)) (As := [.ref 65, .int a1, .int a2]) (r0 := [.int r]) (cs2 := cs2) rfl rfl rfl (Nat.le_of_ble_eq_true rfl) rfl (hrv _) hm (by decide) (by omega) ?_
  refine E_ic (t := 1452) (b := true) rfl rfl (decide_eq_true rfl) ?_
  refine E_iinc (y := 6) (L2 := [some (.ref 1000002), some (.ref 0), some (.ref 65), some (.int 6)]) rfl rfl (by decide) rfl ?_
  refine E_goto (t := 18) rfl rfl ?_
  refine E_iload_n rfl rfl ?_
  refine E_aload_n rfl rfl ?_
  refine E_tlen (n := 6) (t := 2) rfl (List.getElem?_eq_none (by omega)) rfl (by decide) rfl rfl ?_
  refine E_bipush (x := 6) rfl (by decide) ?_
  refine E_isub (z := 0) rfl (by decide) ?_
  refine E_ic (t := 1458) (b := true) rfl rfl (by decide) ?_
  refine E_iconst (x := 1) rfl (by decide) ?_
  exact E_iret rfl rfl
theorem law_18 {a0 a1 a2 a3 a4 a5 : Int32} (h0 : a0 &&& 63 = 18) {r : Int32} {cs1 cs2 : List ab_C} (hx : Ev ab_Z0 6 94 [.ref 0, .int a1, .int a2] w0 (some (.int r), cs1)) (hm : Ev ab_Z0 5 178 [.ref 65, .int a1, .int a2] cs1 (some (.int r), cs2)) (l1 : cs1.length = 95) (l2 : cs2.length = 95) (hrv : ∀ l, ab_rv ab_G 6 (.ref 65 :: l) cs1 = true) : Ef (3, ab_Tb ++ [[a0, a1, a2, a3, a4, a5]]) 8 mL_law (27, [some (.ref 1000002), some (.ref 0), some (.ref 65), some (.int 0)], [], w0) (some (.int 1), cs2) := by
  have hw : w0.length = 95 := rfl
  refine E_aload_n rfl rfl ?_
  refine E_iload_n rfl rfl ?_
  refine E_tload (x := a0) (j := 0) (t := 2) rfl rfl rfl (by decide) rfl (by decide) (by decide) rfl ?_
  refine E_bipush (x := 63) rfl (by decide) ?_
  refine E_iand (z := 18) rfl h0 ?_
  refine E_tsIn (off := 826) (t := 859) rfl (by decide) rfl rfl ?_
  refine E_aload_n rfl rfl ?_
  refine E_aload_n rfl rfl ?_
  refine E_iload_n rfl rfl ?_
  refine E_iconst (x := 1) rfl (by decide) ?_
  refine E_iadd (z := 1) rfl (by decide) ?_
  refine E_tload (x := a1) (j := 1) (t := 2) rfl rfl rfl (by decide) rfl (by decide) (by decide) rfl ?_
  refine E_aload_n rfl rfl ?_
  refine E_iload_n rfl rfl ?_
  refine E_iconst (x := 2) rfl (by decide) ?_
  refine E_iadd (z := 2) rfl (by decide) ?_
  refine E_tload (x := a2) (j := 2) (t := 2) rfl rfl rfl (by decide) rfl (by decide) (by decide) rfl ?_
  refine E_callV (v := some (.int r)) (As := [.ref 0, .int a1, .int a2]) (r0 := []) (cs2 := cs1) rfl rfl rfl (Nat.le_of_ble_eq_true rfl) rfl rfl hx (by decide) (by omega) ?_
  refine E_aload_n rfl rfl ?_
  refine E_aload_n rfl rfl ?_
  refine E_iload_n rfl rfl ?_
  refine E_iconst (x := 1) rfl (by decide) ?_
  refine E_iadd (z := 1) rfl (by decide) ?_
  refine E_tload (x := a1) (j := 1) (t := 2) rfl (List.getElem?_eq_none (by omega)) rfl (by decide) rfl (by decide) (by decide) rfl ?_
  refine E_aload_n rfl rfl ?_
  refine E_iload_n rfl rfl ?_
  refine E_iconst (x := 2) rfl (by decide) ?_
  refine E_iadd (z := 2) rfl (by decide) ?_
  refine E_tload (x := a2) (j := 2) (t := 2) rfl (List.getElem?_eq_none (by omega)) rfl (by decide) rfl (by decide) (by decide) rfl ?_
  refine E_callV (v := some (.int r)) (As := [.ref 65, .int a1, .int a2]) (r0 := [.int r]) (cs2 := cs2) rfl rfl rfl (Nat.le_of_ble_eq_true rfl) rfl (hrv _) hm (by decide) (by omega) ?_
  refine E_ic (t := 1452) (b := true) rfl rfl (decide_eq_true rfl) ?_
  refine E_iinc (y := 6) (L2 := [some (.ref 1000002), some (.ref 0), some (.ref 65), some (.int 6)]) rfl rfl (by decide) rfl ?_
  refine E_goto (t := 18) rfl rfl ?_
  refine E_iload_n rfl rfl ?_
  refine E_aload_n rfl rfl ?_
  refine E_tlen (n := 6) (t := 2) rfl (List.getElem?_eq_none (by omega)) rfl (by decide) rfl rfl ?_
  refine E_bipush (x := 6) rfl (by decide) ?_
  refine E_isub (z := 0) rfl (by decide) ?_
  refine E_ic (t := 1458) (b := true) rfl rfl (by decide) ?_
  refine E_iconst (x := 1) rfl (by decide) ?_
  exact E_iret rfl rfl
theorem law_19 {a0 a1 a2 a3 a4 a5 : Int32} (h0 : a0 &&& 63 = 19) {r : Int32} {cs1 cs2 : List ab_C} (hx : Ev ab_Z0 5 95 [.ref 0, .int a1, .int a2] w0 (some (.int r), cs1)) (hm : Ev ab_Z0 6 179 [.ref 65, .int a1, .int a2] cs1 (some (.int r), cs2)) (l1 : cs1.length = 95) (l2 : cs2.length = 95) (hrv : ∀ l, ab_rv ab_G 6 (.ref 65 :: l) cs1 = true) : Ef (3, ab_Tb ++ [[a0, a1, a2, a3, a4, a5]]) 8 mL_law (27, [some (.ref 1000002), some (.ref 0), some (.ref 65), some (.int 0)], [], w0) (some (.int 1), cs2) := by
  have hw : w0.length = 95 := rfl
  refine E_aload_n rfl rfl ?_
  refine E_iload_n rfl rfl ?_
  refine E_tload (x := a0) (j := 0) (t := 2) rfl rfl rfl (by decide) rfl (by decide) (by decide) rfl ?_
  refine E_bipush (x := 63) rfl (by decide) ?_
  refine E_iand (z := 19) rfl h0 ?_
  refine E_tsIn (off := 859) (t := 892) rfl (by decide) rfl rfl ?_
  refine E_aload_n rfl rfl ?_
  refine E_aload_n rfl rfl ?_
  refine E_iload_n rfl rfl ?_
  refine E_iconst (x := 1) rfl (by decide) ?_
  refine E_iadd (z := 1) rfl (by decide) ?_
  refine E_tload (x := a1) (j := 1) (t := 2) rfl rfl rfl (by decide) rfl (by decide) (by decide) rfl ?_
  refine E_aload_n rfl rfl ?_
  refine E_iload_n rfl rfl ?_
  refine E_iconst (x := 2) rfl (by decide) ?_
  refine E_iadd (z := 2) rfl (by decide) ?_
  refine E_tload (x := a2) (j := 2) (t := 2) rfl rfl rfl (by decide) rfl (by decide) (by decide) rfl ?_
  refine E_callV (v := some (.int r)) (As := [.ref 0, .int a1, .int a2]) (r0 := []) (cs2 := cs1) rfl rfl rfl (Nat.le_of_ble_eq_true rfl) rfl rfl hx (by decide) (by omega) ?_
  refine E_aload_n rfl rfl ?_
  refine E_aload_n rfl rfl ?_
  refine E_iload_n rfl rfl ?_
  refine E_iconst (x := 1) rfl (by decide) ?_
  refine E_iadd (z := 1) rfl (by decide) ?_
  refine E_tload (x := a1) (j := 1) (t := 2) rfl (List.getElem?_eq_none (by omega)) rfl (by decide) rfl (by decide) (by decide) rfl ?_
  refine E_aload_n rfl rfl ?_
  refine E_iload_n rfl rfl ?_
  refine E_iconst (x := 2) rfl (by decide) ?_
  refine E_iadd (z := 2) rfl (by decide) ?_
  refine E_tload (x := a2) (j := 2) (t := 2) rfl (List.getElem?_eq_none (by omega)) rfl (by decide) rfl (by decide) (by decide) rfl ?_
  refine E_callV (v := some (.int r)) (As := [.ref 65, .int a1, .int a2]) (r0 := [.int r]) (cs2 := cs2) rfl rfl rfl (Nat.le_of_ble_eq_true rfl) rfl (hrv _) hm (by decide) (by omega) ?_
  refine E_ic (t := 1452) (b := true) rfl rfl (decide_eq_true rfl) ?_
  refine E_iinc (y := 6) (L2 := [some (.ref 1000002), some (.ref 0), some (.ref 65), some (.int 6)]) rfl rfl (by decide) rfl ?_
  refine E_goto (t := 18) rfl rfl ?_
  refine E_iload_n rfl rfl ?_
  refine E_aload_n rfl rfl ?_
  refine E_tlen (n := 6) (t := 2) rfl (List.getElem?_eq_none (by omega)) rfl (by decide) rfl rfl ?_
  refine E_bipush (x := 6) rfl (by decide) ?_
  refine E_isub (z := 0) rfl (by decide) ?_
  refine E_ic (t := 1458) (b := true) rfl rfl (by decide) ?_
  refine E_iconst (x := 1) rfl (by decide) ?_
  exact E_iret rfl rfl
theorem law_20 {a0 a1 a2 a3 a4 a5 : Int32} (h0 : a0 &&& 63 = 20) {r : Int32} {cs1 cs2 : List ab_C} (hx : Ev ab_Z0 4 96 [.ref 0, .int a1] w0 (some (.int r), cs1)) (hm : Ev ab_Z0 4 180 [.ref 65, .int a1] cs1 (some (.int r), cs2)) (l1 : cs1.length = 95) (l2 : cs2.length = 95) (hrv : ∀ l, ab_rv ab_G 6 (.ref 65 :: l) cs1 = true) : Ef (3, ab_Tb ++ [[a0, a1, a2, a3, a4, a5]]) 8 mL_law (27, [some (.ref 1000002), some (.ref 0), some (.ref 65), some (.int 0)], [], w0) (some (.int 1), cs2) := by
  have hw : w0.length = 95 := rfl
  refine E_aload_n rfl rfl ?_
  refine E_iload_n rfl rfl ?_
  refine E_tload (x := a0) (j := 0) (t := 2) rfl rfl rfl (by decide) rfl (by decide) (by decide) rfl ?_
  refine E_bipush (x := 63) rfl (by decide) ?_
  refine E_iand (z := 20) rfl h0 ?_
  refine E_tsIn (off := 892) (t := 925) rfl (by decide) rfl rfl ?_
  refine E_aload_n rfl rfl ?_
  refine E_aload_n rfl rfl ?_
  refine E_iload_n rfl rfl ?_
  refine E_iconst (x := 1) rfl (by decide) ?_
  refine E_iadd (z := 1) rfl (by decide) ?_
  refine E_tload (x := a1) (j := 1) (t := 2) rfl rfl rfl (by decide) rfl (by decide) (by decide) rfl ?_
  refine E_callV (v := some (.int r)) (As := [.ref 0, .int a1]) (r0 := []) (cs2 := cs1) rfl rfl rfl (Nat.le_of_ble_eq_true rfl) rfl rfl hx (by decide) (by omega) ?_
  refine E_aload_n rfl rfl ?_
  refine E_aload_n rfl rfl ?_
  refine E_iload_n rfl rfl ?_
  refine E_iconst (x := 1) rfl (by decide) ?_
  refine E_iadd (z := 1) rfl (by decide) ?_
  refine E_tload (x := a1) (j := 1) (t := 2) rfl (List.getElem?_eq_none (by omega)) rfl (by decide) rfl (by decide) (by decide) rfl ?_
  refine E_callV (v := some (.int r)) (As := [.ref 65, .int a1]) (r0 := [.int r]) (cs2 := cs2) rfl rfl rfl (Nat.le_of_ble_eq_true rfl) rfl (hrv _) hm (by decide) (by omega) ?_
  refine E_ic (t := 1452) (b := true) rfl rfl (decide_eq_true rfl) ?_
  refine E_iinc (y := 6) (L2 := [some (.ref 1000002), some (.ref 0), some (.ref 65), some (.int 6)]) rfl rfl (by decide) rfl ?_
  refine E_goto (t := 18) rfl rfl ?_
  refine E_iload_n rfl rfl ?_
  refine E_aload_n rfl rfl ?_
  refine E_tlen (n := 6) (t := 2) rfl (List.getElem?_eq_none (by omega)) rfl (by decide) rfl rfl ?_
  refine E_bipush (x := 6) rfl (by decide) ?_
  refine E_isub (z := 0) rfl (by decide) ?_
  refine E_ic (t := 1458) (b := true) rfl rfl (by decide) ?_
  refine E_iconst (x := 1) rfl (by decide) ?_
  exact E_iret rfl rfl
theorem law_21 {a0 a1 a2 a3 a4 a5 : Int32} (h0 : a0 &&& 63 = 21) {r : Int32} {cs1 cs2 : List ab_C} (hx : Ev ab_Z0 4 97 [.ref 0, .int a1] w0 (some (.int r), cs1)) (hm : Ev ab_Z0 4 182 [.ref 65, .int a1] cs1 (some (.int r), cs2)) (l1 : cs1.length = 95) (l2 : cs2.length = 95) (hrv : ∀ l, ab_rv ab_G 6 (.ref 65 :: l) cs1 = true) : Ef (3, ab_Tb ++ [[a0, a1, a2, a3, a4, a5]]) 8 mL_law (27, [some (.ref 1000002), some (.ref 0), some (.ref 65), some (.int 0)], [], w0) (some (.int 1), cs2) := by
  have hw : w0.length = 95 := rfl
  refine E_aload_n rfl rfl ?_
  refine E_iload_n rfl rfl ?_
  refine E_tload (x := a0) (j := 0) (t := 2) rfl rfl rfl (by decide) rfl (by decide) (by decide) rfl ?_
  refine E_bipush (x := 63) rfl (by decide) ?_
  refine E_iand (z := 21) rfl h0 ?_
  refine E_tsIn (off := 915) (t := 948) rfl (by decide) rfl rfl ?_
  refine E_aload_n rfl rfl ?_
  refine E_aload_n rfl rfl ?_
  refine E_iload_n rfl rfl ?_
  refine E_iconst (x := 1) rfl (by decide) ?_
  refine E_iadd (z := 1) rfl (by decide) ?_
  refine E_tload (x := a1) (j := 1) (t := 2) rfl rfl rfl (by decide) rfl (by decide) (by decide) rfl ?_
  refine E_callV (v := some (.int r)) (As := [.ref 0, .int a1]) (r0 := []) (cs2 := cs1) rfl rfl rfl (Nat.le_of_ble_eq_true rfl) rfl rfl hx (by decide) (by omega) ?_
  refine E_aload_n rfl rfl ?_
  refine E_aload_n rfl rfl ?_
  refine E_iload_n rfl rfl ?_
  refine E_iconst (x := 1) rfl (by decide) ?_
  refine E_iadd (z := 1) rfl (by decide) ?_
  refine E_tload (x := a1) (j := 1) (t := 2) rfl (List.getElem?_eq_none (by omega)) rfl (by decide) rfl (by decide) (by decide) rfl ?_
  refine E_callV (v := some (.int r)) (As := [.ref 65, .int a1]) (r0 := [.int r]) (cs2 := cs2) rfl rfl rfl (Nat.le_of_ble_eq_true rfl) rfl (hrv _) hm (by decide) (by omega) ?_
  refine E_ic (t := 1452) (b := true) rfl rfl (decide_eq_true rfl) ?_
  refine E_iinc (y := 6) (L2 := [some (.ref 1000002), some (.ref 0), some (.ref 65), some (.int 6)]) rfl rfl (by decide) rfl ?_
  refine E_goto (t := 18) rfl rfl ?_
  refine E_iload_n rfl rfl ?_
  refine E_aload_n rfl rfl ?_
  refine E_tlen (n := 6) (t := 2) rfl (List.getElem?_eq_none (by omega)) rfl (by decide) rfl rfl ?_
  refine E_bipush (x := 6) rfl (by decide) ?_
  refine E_isub (z := 0) rfl (by decide) ?_
  refine E_ic (t := 1458) (b := true) rfl rfl (by decide) ?_
  refine E_iconst (x := 1) rfl (by decide) ?_
  exact E_iret rfl rfl
theorem law_22 {a0 a1 a2 a3 a4 a5 : Int32} (h0 : a0 &&& 63 = 22) {r : Int32} {cs1 cs2 : List ab_C} (hx : Ev ab_Z0 5 98 [.ref 0, .int a1] w0 (some (.int r), cs1)) (hm : Ev ab_Z0 7 185 [.ref 65, .int a1] cs1 (some (.int r), cs2)) (l1 : cs1.length = 95) (l2 : cs2.length = 95) (hrv : ∀ l, ab_rv ab_G 6 (.ref 65 :: l) cs1 = true) : Ef (3, ab_Tb ++ [[a0, a1, a2, a3, a4, a5]]) 8 mL_law (27, [some (.ref 1000002), some (.ref 0), some (.ref 65), some (.int 0)], [], w0) (some (.int 1), cs2) := by
  have hw : w0.length = 95 := rfl
  refine E_aload_n rfl rfl ?_
  refine E_iload_n rfl rfl ?_
  refine E_tload (x := a0) (j := 0) (t := 2) rfl rfl rfl (by decide) rfl (by decide) (by decide) rfl ?_
  refine E_bipush (x := 63) rfl (by decide) ?_
  refine E_iand (z := 22) rfl h0 ?_
  refine E_tsIn (off := 938) (t := 971) rfl (by decide) rfl rfl ?_
  refine E_aload_n rfl rfl ?_
  refine E_aload_n rfl rfl ?_
  refine E_iload_n rfl rfl ?_
  refine E_iconst (x := 1) rfl (by decide) ?_
  refine E_iadd (z := 1) rfl (by decide) ?_
  refine E_tload (x := a1) (j := 1) (t := 2) rfl rfl rfl (by decide) rfl (by decide) (by decide) rfl ?_
  refine E_callV (v := some (.int r)) (As := [.ref 0, .int a1]) (r0 := []) (cs2 := cs1) rfl rfl rfl (Nat.le_of_ble_eq_true rfl) rfl rfl hx (by decide) (by omega) ?_
  refine E_aload_n rfl rfl ?_
  refine E_aload_n rfl rfl ?_
  refine E_iload_n rfl rfl ?_
  refine E_iconst (x := 1) rfl (by decide) ?_
  refine E_iadd (z := 1) rfl (by decide) ?_
  refine E_tload (x := a1) (j := 1) (t := 2) rfl (List.getElem?_eq_none (by omega)) rfl (by decide) rfl (by decide) (by decide) rfl ?_
  refine E_callV (v := some (.int r)) (As := [.ref 65, .int a1]) (r0 := [.int r]) (cs2 := cs2) rfl rfl rfl (Nat.le_of_ble_eq_true rfl) rfl (hrv _) hm (by decide) (by omega) ?_
  refine E_ic (t := 1452) (b := true) rfl rfl (decide_eq_true rfl) ?_
  refine E_iinc (y := 6) (L2 := [some (.ref 1000002), some (.ref 0), some (.ref 65), some (.int 6)]) rfl rfl (by decide) rfl ?_
  refine E_goto (t := 18) rfl rfl ?_
  refine E_iload_n rfl rfl ?_
  refine E_aload_n rfl rfl ?_
  refine E_tlen (n := 6) (t := 2) rfl (List.getElem?_eq_none (by omega)) rfl (by decide) rfl rfl ?_
  refine E_bipush (x := 6) rfl (by decide) ?_
  refine E_isub (z := 0) rfl (by decide) ?_
  refine E_ic (t := 1458) (b := true) rfl rfl (by decide) ?_
  refine E_iconst (x := 1) rfl (by decide) ?_
  exact E_iret rfl rfl
theorem law_23 {a0 a1 a2 a3 a4 a5 : Int32} (h0 : a0 &&& 63 = 23) {r : Int32} {cs1 cs2 : List ab_C} (hx : Ev ab_Z0 5 99 [.ref 0, .int a1, .int a2] w0 (some (.int r), cs1)) (hm : Ev ab_Z0 4 187 [.ref 65, .int a1, .int a2] cs1 (some (.int r), cs2)) (l1 : cs1.length = 95) (l2 : cs2.length = 95) (hrv : ∀ l, ab_rv ab_G 6 (.ref 65 :: l) cs1 = true) : Ef (3, ab_Tb ++ [[a0, a1, a2, a3, a4, a5]]) 8 mL_law (27, [some (.ref 1000002), some (.ref 0), some (.ref 65), some (.int 0)], [], w0) (some (.int 1), cs2) := by
  have hw : w0.length = 95 := rfl
  refine E_aload_n rfl rfl ?_
  refine E_iload_n rfl rfl ?_
  refine E_tload (x := a0) (j := 0) (t := 2) rfl rfl rfl (by decide) rfl (by decide) (by decide) rfl ?_
  refine E_bipush (x := 63) rfl (by decide) ?_
  refine E_iand (z := 23) rfl h0 ?_
  refine E_tsIn (off := 961) (t := 994) rfl (by decide) rfl rfl ?_
  refine E_aload_n rfl rfl ?_
  refine E_aload_n rfl rfl ?_
  refine E_iload_n rfl rfl ?_
  refine E_iconst (x := 1) rfl (by decide) ?_
  refine E_iadd (z := 1) rfl (by decide) ?_
  refine E_tload (x := a1) (j := 1) (t := 2) rfl rfl rfl (by decide) rfl (by decide) (by decide) rfl ?_
  refine E_aload_n rfl rfl ?_
  refine E_iload_n rfl rfl ?_
  refine E_iconst (x := 2) rfl (by decide) ?_
  refine E_iadd (z := 2) rfl (by decide) ?_
  refine E_tload (x := a2) (j := 2) (t := 2) rfl rfl rfl (by decide) rfl (by decide) (by decide) rfl ?_
  refine E_callV (v := some (.int r)) (As := [.ref 0, .int a1, .int a2]) (r0 := []) (cs2 := cs1) rfl rfl rfl (Nat.le_of_ble_eq_true rfl) rfl rfl hx (by decide) (by omega) ?_
  refine E_aload_n rfl rfl ?_
  refine E_aload_n rfl rfl ?_
  refine E_iload_n rfl rfl ?_
  refine E_iconst (x := 1) rfl (by decide) ?_
  refine E_iadd (z := 1) rfl (by decide) ?_
  refine E_tload (x := a1) (j := 1) (t := 2) rfl (List.getElem?_eq_none (by omega)) rfl (by decide) rfl (by decide) (by decide) rfl ?_
  refine E_aload_n rfl rfl ?_
  refine E_iload_n rfl rfl ?_
  refine E_iconst (x := 2) rfl (by decide) ?_
  refine E_iadd (z := 2) rfl (by decide) ?_
  refine E_tload (x := a2) (j := 2) (t := 2) rfl (List.getElem?_eq_none (by omega)) rfl (by decide) rfl (by decide) (by decide) rfl ?_
  refine E_callV (v := some (.int r)) (As := [.ref 65, .int a1, .int a2]) (r0 := [.int r]) (cs2 := cs2) rfl rfl rfl (Nat.le_of_ble_eq_true rfl) rfl (hrv _) hm (by decide) (by omega) ?_
  refine E_ic (t := 1452) (b := true) rfl rfl (decide_eq_true rfl) ?_
  refine E_iinc (y := 6) (L2 := [some (.ref 1000002), some (.ref 0), some (.ref 65), some (.int 6)]) rfl rfl (by decide) rfl ?_
  refine E_goto (t := 18) rfl rfl ?_
  refine E_iload_n rfl rfl ?_
  refine E_aload_n rfl rfl ?_
  refine E_tlen (n := 6) (t := 2) rfl (List.getElem?_eq_none (by omega)) rfl (by decide) rfl rfl ?_
  refine E_bipush (x := 6) rfl (by decide) ?_
  refine E_isub (z := 0) rfl (by decide) ?_
  refine E_ic (t := 1458) (b := true) rfl rfl (by decide) ?_
  refine E_iconst (x := 1) rfl (by decide) ?_
  exact E_iret rfl rfl
theorem law_24 {a0 a1 a2 a3 a4 a5 : Int32} (h0 : a0 &&& 63 = 24) {r : Int32} {cs1 cs2 : List ab_C} (hx : Ev ab_Z0 6 100 [.ref 0, .int a1, .int a2, .int a3, .int a4] w0 (some (.int r), cs1)) (hm : Ev ab_Z0 4 188 [.ref 65, .int a1, .int a2, .int a3, .int a4] cs1 (some (.int r), cs2)) (l1 : cs1.length = 95) (l2 : cs2.length = 95) (hrv : ∀ l, ab_rv ab_G 6 (.ref 65 :: l) cs1 = true) : Ef (3, ab_Tb ++ [[a0, a1, a2, a3, a4, a5]]) 8 mL_law (27, [some (.ref 1000002), some (.ref 0), some (.ref 65), some (.int 0)], [], w0) (some (.int 1), cs2) := by
  have hw : w0.length = 95 := rfl
  refine E_aload_n rfl rfl ?_
  refine E_iload_n rfl rfl ?_
  refine E_tload (x := a0) (j := 0) (t := 2) rfl rfl rfl (by decide) rfl (by decide) (by decide) rfl ?_
  refine E_bipush (x := 63) rfl (by decide) ?_
  refine E_iand (z := 24) rfl h0 ?_
  refine E_tsIn (off := 994) (t := 1027) rfl (by decide) rfl rfl ?_
  refine E_aload_n rfl rfl ?_
  refine E_aload_n rfl rfl ?_
  refine E_iload_n rfl rfl ?_
  refine E_iconst (x := 1) rfl (by decide) ?_
  refine E_iadd (z := 1) rfl (by decide) ?_
  refine E_tload (x := a1) (j := 1) (t := 2) rfl rfl rfl (by decide) rfl (by decide) (by decide) rfl ?_
  refine E_aload_n rfl rfl ?_
  refine E_iload_n rfl rfl ?_
  refine E_iconst (x := 2) rfl (by decide) ?_
  refine E_iadd (z := 2) rfl (by decide) ?_
  refine E_tload (x := a2) (j := 2) (t := 2) rfl rfl rfl (by decide) rfl (by decide) (by decide) rfl ?_
  refine E_aload_n rfl rfl ?_
  refine E_iload_n rfl rfl ?_
  refine E_iconst (x := 3) rfl (by decide) ?_
  refine E_iadd (z := 3) rfl (by decide) ?_
  refine E_tload (x := a3) (j := 3) (t := 2) rfl rfl rfl (by decide) rfl (by decide) (by decide) rfl ?_
  refine E_aload_n rfl rfl ?_
  refine E_iload_n rfl rfl ?_
  refine E_iconst (x := 4) rfl (by decide) ?_
  refine E_iadd (z := 4) rfl (by decide) ?_
  refine E_tload (x := a4) (j := 4) (t := 2) rfl rfl rfl (by decide) rfl (by decide) (by decide) rfl ?_
  refine E_callV (v := some (.int r)) (As := [.ref 0, .int a1, .int a2, .int a3, .int a4]) (r0 := []) (cs2 := cs1) rfl rfl rfl (Nat.le_of_ble_eq_true rfl) rfl rfl hx (by decide) (by omega) ?_
  refine E_aload_n rfl rfl ?_
  refine E_aload_n rfl rfl ?_
  refine E_iload_n rfl rfl ?_
  refine E_iconst (x := 1) rfl (by decide) ?_
  refine E_iadd (z := 1) rfl (by decide) ?_
  refine E_tload (x := a1) (j := 1) (t := 2) rfl (List.getElem?_eq_none (by omega)) rfl (by decide) rfl (by decide) (by decide) rfl ?_
  refine E_aload_n rfl rfl ?_
  refine E_iload_n rfl rfl ?_
  refine E_iconst (x := 2) rfl (by decide) ?_
  refine E_iadd (z := 2) rfl (by decide) ?_
  refine E_tload (x := a2) (j := 2) (t := 2) rfl (List.getElem?_eq_none (by omega)) rfl (by decide) rfl (by decide) (by decide) rfl ?_
  refine E_aload_n rfl rfl ?_
  refine E_iload_n rfl rfl ?_
  refine E_iconst (x := 3) rfl (by decide) ?_
  refine E_iadd (z := 3) rfl (by decide) ?_
  refine E_tload (x := a3) (j := 3) (t := 2) rfl (List.getElem?_eq_none (by omega)) rfl (by decide) rfl (by decide) (by decide) rfl ?_
  refine E_aload_n rfl rfl ?_
  refine E_iload_n rfl rfl ?_
  refine E_iconst (x := 4) rfl (by decide) ?_
  refine E_iadd (z := 4) rfl (by decide) ?_
  refine E_tload (x := a4) (j := 4) (t := 2) rfl (List.getElem?_eq_none (by omega)) rfl (by decide) rfl (by decide) (by decide) rfl ?_
  refine E_callV (v := some (.int r)) (As := [.ref 65, .int a1, .int a2, .int a3, .int a4]) (r0 := [.int r]) (cs2 := cs2) rfl rfl rfl (Nat.le_of_ble_eq_true rfl) rfl (hrv _) hm (by decide) (by omega) ?_
  refine E_ic (t := 1452) (b := true) rfl rfl (decide_eq_true rfl) ?_
  refine E_iinc (y := 6) (L2 := [some (.ref 1000002), some (.ref 0), some (.ref 65), some (.int 6)]) rfl rfl (by decide) rfl ?_
  refine E_goto (t := 18) rfl rfl ?_
  refine E_iload_n rfl rfl ?_
  refine E_aload_n rfl rfl ?_
  refine E_tlen (n := 6) (t := 2) rfl (List.getElem?_eq_none (by omega)) rfl (by decide) rfl rfl ?_
  refine E_bipush (x := 6) rfl (by decide) ?_
  refine E_isub (z := 0) rfl (by decide) ?_
  refine E_ic (t := 1458) (b := true) rfl rfl (by decide) ?_
  refine E_iconst (x := 1) rfl (by decide) ?_
  exact E_iret rfl rfl
theorem law_25 {a0 a1 a2 a3 a4 a5 : Int32} (h0 : a0 &&& 63 = 25) {r : Int32} {cs1 cs2 : List ab_C} (hx : Ev ab_Z0 5 101 [.ref 0, .int a1] w0 (some (.int r), cs1)) (hm : Ev ab_Z0 5 191 [.ref 65, .int a1] cs1 (some (.int r), cs2)) (l1 : cs1.length = 95) (l2 : cs2.length = 95) (hrv : ∀ l, ab_rv ab_G 6 (.ref 65 :: l) cs1 = true) : Ef (3, ab_Tb ++ [[a0, a1, a2, a3, a4, a5]]) 8 mL_law (27, [some (.ref 1000002), some (.ref 0), some (.ref 65), some (.int 0)], [], w0) (some (.int 1), cs2) := by
  have hw : w0.length = 95 := rfl
  refine E_aload_n rfl rfl ?_
  refine E_iload_n rfl rfl ?_
  refine E_tload (x := a0) (j := 0) (t := 2) rfl rfl rfl (by decide) rfl (by decide) (by decide) rfl ?_
  refine E_bipush (x := 63) rfl (by decide) ?_
  refine E_iand (z := 25) rfl h0 ?_
  refine E_tsIn (off := 1047) (t := 1080) rfl (by decide) rfl rfl ?_
  refine E_aload_n rfl rfl ?_
  refine E_aload_n rfl rfl ?_
  refine E_iload_n rfl rfl ?_
  refine E_iconst (x := 1) rfl (by decide) ?_
  refine E_iadd (z := 1) rfl (by decide) ?_
  refine E_tload (x := a1) (j := 1) (t := 2) rfl rfl rfl (by decide) rfl (by decide) (by decide) rfl ?_
  refine E_callV (v := some (.int r)) (As := [.ref 0, .int a1]) (r0 := []) (cs2 := cs1) rfl rfl rfl (Nat.le_of_ble_eq_true rfl) rfl rfl hx (by decide) (by omega) ?_
  refine E_aload_n rfl rfl ?_
  refine E_aload_n rfl rfl ?_
  refine E_iload_n rfl rfl ?_
  refine E_iconst (x := 1) rfl (by decide) ?_
  refine E_iadd (z := 1) rfl (by decide) ?_
  refine E_tload (x := a1) (j := 1) (t := 2) rfl (List.getElem?_eq_none (by omega)) rfl (by decide) rfl (by decide) (by decide) rfl ?_
  refine E_callV (v := some (.int r)) (As := [.ref 65, .int a1]) (r0 := [.int r]) (cs2 := cs2) rfl rfl rfl (Nat.le_of_ble_eq_true rfl) rfl (hrv _) hm (by decide) (by omega) ?_
  refine E_ic (t := 1452) (b := true) rfl rfl (decide_eq_true rfl) ?_
  refine E_iinc (y := 6) (L2 := [some (.ref 1000002), some (.ref 0), some (.ref 65), some (.int 6)]) rfl rfl (by decide) rfl ?_
  refine E_goto (t := 18) rfl rfl ?_
  refine E_iload_n rfl rfl ?_
  refine E_aload_n rfl rfl ?_
  refine E_tlen (n := 6) (t := 2) rfl (List.getElem?_eq_none (by omega)) rfl (by decide) rfl rfl ?_
  refine E_bipush (x := 6) rfl (by decide) ?_
  refine E_isub (z := 0) rfl (by decide) ?_
  refine E_ic (t := 1458) (b := true) rfl rfl (by decide) ?_
  refine E_iconst (x := 1) rfl (by decide) ?_
  exact E_iret rfl rfl
theorem law_26 {a0 a1 a2 a3 a4 a5 : Int32} (h0 : a0 &&& 63 = 26) {r : Int32} {cs1 cs2 : List ab_C} (hx : Ev ab_Z0 3 102 [.ref 0, .int a1] w0 (some (.int r), cs1)) (hm : Ev ab_Z0 3 192 [.ref 65, .int a1] cs1 (some (.int r), cs2)) (l1 : cs1.length = 95) (l2 : cs2.length = 95) (hrv : ∀ l, ab_rv ab_G 6 (.ref 65 :: l) cs1 = true) : Ef (3, ab_Tb ++ [[a0, a1, a2, a3, a4, a5]]) 8 mL_law (27, [some (.ref 1000002), some (.ref 0), some (.ref 65), some (.int 0)], [], w0) (some (.int 1), cs2) := by
  have hw : w0.length = 95 := rfl
  refine E_aload_n rfl rfl ?_
  refine E_iload_n rfl rfl ?_
  refine E_tload (x := a0) (j := 0) (t := 2) rfl rfl rfl (by decide) rfl (by decide) (by decide) rfl ?_
  refine E_bipush (x := 63) rfl (by decide) ?_
  refine E_iand (z := 26) rfl h0 ?_
  refine E_tsIn (off := 1070) (t := 1103) rfl (by decide) rfl rfl ?_
  refine E_aload_n rfl rfl ?_
  refine E_aload_n rfl rfl ?_
  refine E_iload_n rfl rfl ?_
  refine E_iconst (x := 1) rfl (by decide) ?_
  refine E_iadd (z := 1) rfl (by decide) ?_
  refine E_tload (x := a1) (j := 1) (t := 2) rfl rfl rfl (by decide) rfl (by decide) (by decide) rfl ?_
  refine E_callV (v := some (.int r)) (As := [.ref 0, .int a1]) (r0 := []) (cs2 := cs1) rfl rfl rfl (Nat.le_of_ble_eq_true rfl) rfl rfl hx (by decide) (by omega) ?_
  refine E_aload_n rfl rfl ?_
  refine E_aload_n rfl rfl ?_
  refine E_iload_n rfl rfl ?_
  refine E_iconst (x := 1) rfl (by decide) ?_
  refine E_iadd (z := 1) rfl (by decide) ?_
  refine E_tload (x := a1) (j := 1) (t := 2) rfl (List.getElem?_eq_none (by omega)) rfl (by decide) rfl (by decide) (by decide) rfl ?_
  refine E_callV (v := some (.int r)) (As := [.ref 65, .int a1]) (r0 := [.int r]) (cs2 := cs2) rfl rfl rfl (Nat.le_of_ble_eq_true rfl) rfl (hrv _) hm (by decide) (by omega) ?_
  refine E_ic (t := 1452) (b := true) rfl rfl (decide_eq_true rfl) ?_
  refine E_iinc (y := 6) (L2 := [some (.ref 1000002), some (.ref 0), some (.ref 65), some (.int 6)]) rfl rfl (by decide) rfl ?_
  refine E_goto (t := 18) rfl rfl ?_
  refine E_iload_n rfl rfl ?_
  refine E_aload_n rfl rfl ?_
  refine E_tlen (n := 6) (t := 2) rfl (List.getElem?_eq_none (by omega)) rfl (by decide) rfl rfl ?_
  refine E_bipush (x := 6) rfl (by decide) ?_
  refine E_isub (z := 0) rfl (by decide) ?_
  refine E_ic (t := 1458) (b := true) rfl rfl (by decide) ?_
  refine E_iconst (x := 1) rfl (by decide) ?_
  exact E_iret rfl rfl
theorem law_27 {a0 a1 a2 a3 a4 a5 : Int32} (h0 : a0 &&& 63 = 27) {r : Int32} {cs1 cs2 : List ab_C} (hx : Ev ab_Z0 7 103 [.ref 0, .int a1, .int a2] w0 (some (.int r), cs1)) (hm : Ev ab_Z0 6 194 [.ref 65, .int a1, .int a2] cs1 (some (.int r), cs2)) (l1 : cs1.length = 95) (l2 : cs2.length = 95) (hrv : ∀ l, ab_rv ab_G 6 (.ref 65 :: l) cs1 = true) : Ef (3, ab_Tb ++ [[a0, a1, a2, a3, a4, a5]]) 8 mL_law (27, [some (.ref 1000002), some (.ref 0), some (.ref 65), some (.int 0)], [], w0) (some (.int 1), cs2) := by
  have hw : w0.length = 95 := rfl
  refine E_aload_n rfl rfl ?_
  refine E_iload_n rfl rfl ?_
  refine E_tload (x := a0) (j := 0) (t := 2) rfl rfl rfl (by decide) rfl (by decide) (by decide) rfl ?_
  refine E_bipush (x := 63) rfl (by decide) ?_
  refine E_iand (z := 27) rfl h0 ?_
  refine E_tsIn (off := 1093) (t := 1126) rfl (by decide) rfl rfl ?_
  refine E_aload_n rfl rfl ?_
  refine E_aload_n rfl rfl ?_
  refine E_iload_n rfl rfl ?_
  refine E_iconst (x := 1) rfl (by decide) ?_
  refine E_iadd (z := 1) rfl (by decide) ?_
  refine E_tload (x := a1) (j := 1) (t := 2) rfl rfl rfl (by decide) rfl (by decide) (by decide) rfl ?_
  refine E_aload_n rfl rfl ?_
  refine E_iload_n rfl rfl ?_
  refine E_iconst (x := 2) rfl (by decide) ?_
  refine E_iadd (z := 2) rfl (by decide) ?_
  refine E_tload (x := a2) (j := 2) (t := 2) rfl rfl rfl (by decide) rfl (by decide) (by decide) rfl ?_
  refine E_callV (v := some (.int r)) (As := [.ref 0, .int a1, .int a2]) (r0 := []) (cs2 := cs1) rfl rfl rfl (Nat.le_of_ble_eq_true rfl) rfl rfl hx (by decide) (by omega) ?_
  refine E_aload_n rfl rfl ?_
  refine E_aload_n rfl rfl ?_
  refine E_iload_n rfl rfl ?_
  refine E_iconst (x := 1) rfl (by decide) ?_
  refine E_iadd (z := 1) rfl (by decide) ?_
  refine E_tload (x := a1) (j := 1) (t := 2) rfl (List.getElem?_eq_none (by omega)) rfl (by decide) rfl (by decide) (by decide) rfl ?_
  refine E_aload_n rfl rfl ?_
  refine E_iload_n rfl rfl ?_
  refine E_iconst (x := 2) rfl (by decide) ?_
  refine E_iadd (z := 2) rfl (by decide) ?_
  refine E_tload (x := a2) (j := 2) (t := 2) rfl (List.getElem?_eq_none (by omega)) rfl (by decide) rfl (by decide) (by decide) rfl ?_
  refine E_callV (v := some (.int r)) (As := [.ref 65, .int a1, .int a2]) (r0 := [.int r]) (cs2 := cs2) rfl rfl rfl (Nat.le_of_ble_eq_true rfl) rfl (hrv _) hm (by decide) (by omega) ?_
  refine E_ic (t := 1452) (b := true) rfl rfl (decide_eq_true rfl) ?_
  refine E_iinc (y := 6) (L2 := [some (.ref 1000002), some (.ref 0), some (.ref 65), some (.int 6)]) rfl rfl (by decide) rfl ?_
  refine E_goto (t := 18) rfl rfl ?_
  refine E_iload_n rfl rfl ?_
  refine E_aload_n rfl rfl ?_
  refine E_tlen (n := 6) (t := 2) rfl (List.getElem?_eq_none (by omega)) rfl (by decide) rfl rfl ?_
  refine E_bipush (x := 6) rfl (by decide) ?_
  refine E_isub (z := 0) rfl (by decide) ?_
  refine E_ic (t := 1458) (b := true) rfl rfl (by decide) ?_
  refine E_iconst (x := 1) rfl (by decide) ?_
  exact E_iret rfl rfl
theorem law_28 {a0 a1 a2 a3 a4 a5 : Int32} (h0 : a0 &&& 63 = 28) {r : Int32} {cs1 cs2 : List ab_C} (hx : Ev ab_Z0 7 104 [.ref 0, .int a1, .int a2, .int a3] w0 (some (.int r), cs1)) (hm : Ev ab_Z0 6 195 [.ref 65, .int a1, .int a2, .int a3] cs1 (some (.int r), cs2)) (l1 : cs1.length = 95) (l2 : cs2.length = 95) (hrv : ∀ l, ab_rv ab_G 6 (.ref 65 :: l) cs1 = true) : Ef (3, ab_Tb ++ [[a0, a1, a2, a3, a4, a5]]) 8 mL_law (27, [some (.ref 1000002), some (.ref 0), some (.ref 65), some (.int 0)], [], w0) (some (.int 1), cs2) := by
  have hw : w0.length = 95 := rfl
  refine E_aload_n rfl rfl ?_
  refine E_iload_n rfl rfl ?_
  refine E_tload (x := a0) (j := 0) (t := 2) rfl rfl rfl (by decide) rfl (by decide) (by decide) rfl ?_
  refine E_bipush (x := 63) rfl (by decide) ?_
  refine E_iand (z := 28) rfl h0 ?_
  refine E_tsIn (off := 1126) (t := 1159) rfl (by decide) rfl rfl ?_
  refine E_aload_n rfl rfl ?_
  refine E_aload_n rfl rfl ?_
  refine E_iload_n rfl rfl ?_
  refine E_iconst (x := 1) rfl (by decide) ?_
  refine E_iadd (z := 1) rfl (by decide) ?_
  refine E_tload (x := a1) (j := 1) (t := 2) rfl rfl rfl (by decide) rfl (by decide) (by decide) rfl ?_
  refine E_aload_n rfl rfl ?_
  refine E_iload_n rfl rfl ?_
  refine E_iconst (x := 2) rfl (by decide) ?_
  refine E_iadd (z := 2) rfl (by decide) ?_
  refine E_tload (x := a2) (j := 2) (t := 2) rfl rfl rfl (by decide) rfl (by decide) (by decide) rfl ?_
  refine E_aload_n rfl rfl ?_
  refine E_iload_n rfl rfl ?_
  refine E_iconst (x := 3) rfl (by decide) ?_
  refine E_iadd (z := 3) rfl (by decide) ?_
  refine E_tload (x := a3) (j := 3) (t := 2) rfl rfl rfl (by decide) rfl (by decide) (by decide) rfl ?_
  refine E_callV (v := some (.int r)) (As := [.ref 0, .int a1, .int a2, .int a3]) (r0 := []) (cs2 := cs1) rfl rfl rfl (Nat.le_of_ble_eq_true rfl) rfl rfl hx (by decide) (by omega) ?_
  refine E_aload_n rfl rfl ?_
  refine E_aload_n rfl rfl ?_
  refine E_iload_n rfl rfl ?_
  refine E_iconst (x := 1) rfl (by decide) ?_
  refine E_iadd (z := 1) rfl (by decide) ?_
  refine E_tload (x := a1) (j := 1) (t := 2) rfl (List.getElem?_eq_none (by omega)) rfl (by decide) rfl (by decide) (by decide) rfl ?_
  refine E_aload_n rfl rfl ?_
  refine E_iload_n rfl rfl ?_
  refine E_iconst (x := 2) rfl (by decide) ?_
  refine E_iadd (z := 2) rfl (by decide) ?_
  refine E_tload (x := a2) (j := 2) (t := 2) rfl (List.getElem?_eq_none (by omega)) rfl (by decide) rfl (by decide) (by decide) rfl ?_
  refine E_aload_n rfl rfl ?_
  refine E_iload_n rfl rfl ?_
  refine E_iconst (x := 3) rfl (by decide) ?_
  refine E_iadd (z := 3) rfl (by decide) ?_
  refine E_tload (x := a3) (j := 3) (t := 2) rfl (List.getElem?_eq_none (by omega)) rfl (by decide) rfl (by decide) (by decide) rfl ?_
  refine E_callV (v := some (.int r)) (As := [.ref 65, .int a1, .int a2, .int a3]) (r0 := [.int r]) (cs2 := cs2) rfl rfl rfl (Nat.le_of_ble_eq_true rfl) rfl (hrv _) hm (by decide) (by omega) ?_
  refine E_ic (t := 1452) (b := true) rfl rfl (decide_eq_true rfl) ?_
  refine E_iinc (y := 6) (L2 := [some (.ref 1000002), some (.ref 0), some (.ref 65), some (.int 6)]) rfl rfl (by decide) rfl ?_
  refine E_goto (t := 18) rfl rfl ?_
  refine E_iload_n rfl rfl ?_
  refine E_aload_n rfl rfl ?_
  refine E_tlen (n := 6) (t := 2) rfl (List.getElem?_eq_none (by omega)) rfl (by decide) rfl rfl ?_
  refine E_bipush (x := 6) rfl (by decide) ?_
  refine E_isub (z := 0) rfl (by decide) ?_
  refine E_ic (t := 1458) (b := true) rfl rfl (by decide) ?_
  refine E_iconst (x := 1) rfl (by decide) ?_
  exact E_iret rfl rfl
theorem law_29 {a0 a1 a2 a3 a4 a5 : Int32} (h0 : a0 &&& 63 = 29) {r : Int32} {cs1 cs2 : List ab_C} (hx : Ev ab_Z0 7 105 [.ref 0, .int a1, .int a2] w0 (some (.int r), cs1)) (hm : Ev ab_Z0 6 196 [.ref 65, .int a1, .int a2] cs1 (some (.int r), cs2)) (l1 : cs1.length = 95) (l2 : cs2.length = 95) (hrv : ∀ l, ab_rv ab_G 6 (.ref 65 :: l) cs1 = true) : Ef (3, ab_Tb ++ [[a0, a1, a2, a3, a4, a5]]) 8 mL_law (27, [some (.ref 1000002), some (.ref 0), some (.ref 65), some (.int 0)], [], w0) (some (.int 1), cs2) := by
  have hw : w0.length = 95 := rfl
  refine E_aload_n rfl rfl ?_
  refine E_iload_n rfl rfl ?_
  refine E_tload (x := a0) (j := 0) (t := 2) rfl rfl rfl (by decide) rfl (by decide) (by decide) rfl ?_
  refine E_bipush (x := 63) rfl (by decide) ?_
  refine E_iand (z := 29) rfl h0 ?_
  refine E_tsIn (off := 1169) (t := 1202) rfl (by decide) rfl rfl ?_
  refine E_aload_n rfl rfl ?_
  refine E_aload_n rfl rfl ?_
  refine E_iload_n rfl rfl ?_
  refine E_iconst (x := 1) rfl (by decide) ?_
  refine E_iadd (z := 1) rfl (by decide) ?_
  refine E_tload (x := a1) (j := 1) (t := 2) rfl rfl rfl (by decide) rfl (by decide) (by decide) rfl ?_
  refine E_aload_n rfl rfl ?_
  refine E_iload_n rfl rfl ?_
  refine E_iconst (x := 2) rfl (by decide) ?_
  refine E_iadd (z := 2) rfl (by decide) ?_
  refine E_tload (x := a2) (j := 2) (t := 2) rfl rfl rfl (by decide) rfl (by decide) (by decide) rfl ?_
  refine E_callV (v := some (.int r)) (As := [.ref 0, .int a1, .int a2]) (r0 := []) (cs2 := cs1) rfl rfl rfl (Nat.le_of_ble_eq_true rfl) rfl rfl hx (by decide) (by omega) ?_
  refine E_aload_n rfl rfl ?_
  refine E_aload_n rfl rfl ?_
  refine E_iload_n rfl rfl ?_
  refine E_iconst (x := 1) rfl (by decide) ?_
  refine E_iadd (z := 1) rfl (by decide) ?_
  refine E_tload (x := a1) (j := 1) (t := 2) rfl (List.getElem?_eq_none (by omega)) rfl (by decide) rfl (by decide) (by decide) rfl ?_
  refine E_aload_n rfl rfl ?_
  refine E_iload_n rfl rfl ?_
  refine E_iconst (x := 2) rfl (by decide) ?_
  refine E_iadd (z := 2) rfl (by decide) ?_
  refine E_tload (x := a2) (j := 2) (t := 2) rfl (List.getElem?_eq_none (by omega)) rfl (by decide) rfl (by decide) (by decide) rfl ?_
  refine E_callV (v := some (.int r)) (As := [.ref 65, .int a1, .int a2]) (r0 := [.int r]) (cs2 := cs2) rfl rfl rfl (Nat.le_of_ble_eq_true rfl) rfl (hrv _) hm (by decide) (by omega) ?_
  refine E_ic (t := 1452) (b := true) rfl rfl (decide_eq_true rfl) ?_
  refine E_iinc (y := 6) (L2 := [some (.ref 1000002), some (.ref 0), some (.ref 65), some (.int 6)]) rfl rfl (by decide) rfl ?_
  refine E_goto (t := 18) rfl rfl ?_
  refine E_iload_n rfl rfl ?_
  refine E_aload_n rfl rfl ?_
  refine E_tlen (n := 6) (t := 2) rfl (List.getElem?_eq_none (by omega)) rfl (by decide) rfl rfl ?_
  refine E_bipush (x := 6) rfl (by decide) ?_
  refine E_isub (z := 0) rfl (by decide) ?_
  refine E_ic (t := 1458) (b := true) rfl rfl (by decide) ?_
  refine E_iconst (x := 1) rfl (by decide) ?_
  exact E_iret rfl rfl
theorem law_30 {a0 a1 a2 a3 a4 a5 : Int32} (h0 : a0 &&& 63 = 30) {r : Int32} {cs1 cs2 : List ab_C} (hx : Ev ab_Z0 6 106 [.ref 0, .int a1, .int a2] w0 (some (.int r), cs1)) (hm : Ev ab_Z0 5 197 [.ref 65, .int a1, .int a2] cs1 (some (.int r), cs2)) (l1 : cs1.length = 95) (l2 : cs2.length = 95) (hrv : ∀ l, ab_rv ab_G 6 (.ref 65 :: l) cs1 = true) : Ef (3, ab_Tb ++ [[a0, a1, a2, a3, a4, a5]]) 8 mL_law (27, [some (.ref 1000002), some (.ref 0), some (.ref 65), some (.int 0)], [], w0) (some (.int 1), cs2) := by
  have hw : w0.length = 95 := rfl
  refine E_aload_n rfl rfl ?_
  refine E_iload_n rfl rfl ?_
  refine E_tload (x := a0) (j := 0) (t := 2) rfl rfl rfl (by decide) rfl (by decide) (by decide) rfl ?_
  refine E_bipush (x := 63) rfl (by decide) ?_
  refine E_iand (z := 30) rfl h0 ?_
  refine E_tsIn (off := 1202) (t := 1235) rfl (by decide) rfl rfl ?_
  refine E_aload_n rfl rfl ?_
  refine E_aload_n rfl rfl ?_
  refine E_iload_n rfl rfl ?_
  refine E_iconst (x := 1) rfl (by decide) ?_
  refine E_iadd (z := 1) rfl (by decide) ?_
  refine E_tload (x := a1) (j := 1) (t := 2) rfl rfl rfl (by decide) rfl (by decide) (by decide) rfl ?_
  refine E_aload_n rfl rfl ?_
  refine E_iload_n rfl rfl ?_
  refine E_iconst (x := 2) rfl (by decide) ?_
  refine E_iadd (z := 2) rfl (by decide) ?_
  refine E_tload (x := a2) (j := 2) (t := 2) rfl rfl rfl (by decide) rfl (by decide) (by decide) rfl ?_
  refine E_callV (v := some (.int r)) (As := [.ref 0, .int a1, .int a2]) (r0 := []) (cs2 := cs1) rfl rfl rfl (Nat.le_of_ble_eq_true rfl) rfl rfl hx (by decide) (by omega) ?_
  refine E_aload_n rfl rfl ?_
  refine E_aload_n rfl rfl ?_
  refine E_iload_n rfl rfl ?_
  refine E_iconst (x := 1) rfl (by decide) ?_
  refine E_iadd (z := 1) rfl (by decide) ?_
  refine E_tload (x := a1) (j := 1) (t := 2) rfl (List.getElem?_eq_none (by omega)) rfl (by decide) rfl (by decide) (by decide) rfl ?_
  refine E_aload_n rfl rfl ?_
  refine E_iload_n rfl rfl ?_
  refine E_iconst (x := 2) rfl (by decide) ?_
  refine E_iadd (z := 2) rfl (by decide) ?_
  refine E_tload (x := a2) (j := 2) (t := 2) rfl (List.getElem?_eq_none (by omega)) rfl (by decide) rfl (by decide) (by decide) rfl ?_
  refine E_callV (v := some (.int r)) (As := [.ref 65, .int a1, .int a2]) (r0 := [.int r]) (cs2 := cs2) rfl rfl rfl (Nat.le_of_ble_eq_true rfl) rfl (hrv _) hm (by decide) (by omega) ?_
  refine E_ic (t := 1452) (b := true) rfl rfl (decide_eq_true rfl) ?_
  refine E_iinc (y := 6) (L2 := [some (.ref 1000002), some (.ref 0), some (.ref 65), some (.int 6)]) rfl rfl (by decide) rfl ?_
  refine E_goto (t := 18) rfl rfl ?_
  refine E_iload_n rfl rfl ?_
  refine E_aload_n rfl rfl ?_
  refine E_tlen (n := 6) (t := 2) rfl (List.getElem?_eq_none (by omega)) rfl (by decide) rfl rfl ?_
  refine E_bipush (x := 6) rfl (by decide) ?_
  refine E_isub (z := 0) rfl (by decide) ?_
  refine E_ic (t := 1458) (b := true) rfl rfl (by decide) ?_
  refine E_iconst (x := 1) rfl (by decide) ?_
  exact E_iret rfl rfl
theorem law_31 {a0 a1 a2 a3 a4 a5 : Int32} (h0 : a0 &&& 63 = 31) {r : Int32} {cs1 cs2 : List ab_C} (hx : Ev ab_Z0 3 107 [.ref 0, .int a1] w0 (some (.int r), cs1)) (hm : Ev ab_Z0 2 198 [.ref 65, .int a1] cs1 (some (.int r), cs2)) (l1 : cs1.length = 95) (l2 : cs2.length = 95) (hrv : ∀ l, ab_rv ab_G 6 (.ref 65 :: l) cs1 = true) : Ef (3, ab_Tb ++ [[a0, a1, a2, a3, a4, a5]]) 8 mL_law (27, [some (.ref 1000002), some (.ref 0), some (.ref 65), some (.int 0)], [], w0) (some (.int 1), cs2) := by
  have hw : w0.length = 95 := rfl
  refine E_aload_n rfl rfl ?_
  refine E_iload_n rfl rfl ?_
  refine E_tload (x := a0) (j := 0) (t := 2) rfl rfl rfl (by decide) rfl (by decide) (by decide) rfl ?_
  refine E_bipush (x := 63) rfl (by decide) ?_
  refine E_iand (z := 31) rfl h0 ?_
  refine E_tsIn (off := 1235) (t := 1268) rfl (by decide) rfl rfl ?_
  refine E_aload_n rfl rfl ?_
  refine E_aload_n rfl rfl ?_
  refine E_iload_n rfl rfl ?_
  refine E_iconst (x := 1) rfl (by decide) ?_
  refine E_iadd (z := 1) rfl (by decide) ?_
  refine E_tload (x := a1) (j := 1) (t := 2) rfl rfl rfl (by decide) rfl (by decide) (by decide) rfl ?_
  refine E_callV (v := some (.int r)) (As := [.ref 0, .int a1]) (r0 := []) (cs2 := cs1) rfl rfl rfl (Nat.le_of_ble_eq_true rfl) rfl rfl hx (by decide) (by omega) ?_
  refine E_aload_n rfl rfl ?_
  refine E_aload_n rfl rfl ?_
  refine E_iload_n rfl rfl ?_
  refine E_iconst (x := 1) rfl (by decide) ?_
  refine E_iadd (z := 1) rfl (by decide) ?_
  refine E_tload (x := a1) (j := 1) (t := 2) rfl (List.getElem?_eq_none (by omega)) rfl (by decide) rfl (by decide) (by decide) rfl ?_
  refine E_callV (v := some (.int r)) (As := [.ref 65, .int a1]) (r0 := [.int r]) (cs2 := cs2) rfl rfl rfl (Nat.le_of_ble_eq_true rfl) rfl (hrv _) hm (by decide) (by omega) ?_
  refine E_ic (t := 1452) (b := true) rfl rfl (decide_eq_true rfl) ?_
  refine E_iinc (y := 6) (L2 := [some (.ref 1000002), some (.ref 0), some (.ref 65), some (.int 6)]) rfl rfl (by decide) rfl ?_
  refine E_goto (t := 18) rfl rfl ?_
  refine E_iload_n rfl rfl ?_
  refine E_aload_n rfl rfl ?_
  refine E_tlen (n := 6) (t := 2) rfl (List.getElem?_eq_none (by omega)) rfl (by decide) rfl rfl ?_
  refine E_bipush (x := 6) rfl (by decide) ?_
  refine E_isub (z := 0) rfl (by decide) ?_
  refine E_ic (t := 1458) (b := true) rfl rfl (by decide) ?_
  refine E_iconst (x := 1) rfl (by decide) ?_
  exact E_iret rfl rfl
theorem law_32 {a0 a1 a2 a3 a4 a5 : Int32} (h0 : a0 &&& 63 = 32) {r : Int32} {cs1 cs2 : List ab_C} (hx : Ev ab_Z0 6 108 [.ref 0, .int a1] w0 (some (.int r), cs1)) (hm : Ev ab_Z0 7 202 [.ref 65, .int a1] cs1 (some (.int r), cs2)) (l1 : cs1.length = 95) (l2 : cs2.length = 95) (hrv : ∀ l, ab_rv ab_G 6 (.ref 65 :: l) cs1 = true) : Ef (3, ab_Tb ++ [[a0, a1, a2, a3, a4, a5]]) 8 mL_law (27, [some (.ref 1000002), some (.ref 0), some (.ref 65), some (.int 0)], [], w0) (some (.int 1), cs2) := by
  have hw : w0.length = 95 := rfl
  refine E_aload_n rfl rfl ?_
  refine E_iload_n rfl rfl ?_
  refine E_tload (x := a0) (j := 0) (t := 2) rfl rfl rfl (by decide) rfl (by decide) (by decide) rfl ?_
  refine E_bipush (x := 63) rfl (by decide) ?_
  refine E_iand (z := 32) rfl h0 ?_
  refine E_tsIn (off := 1258) (t := 1291) rfl (by decide) rfl rfl ?_
  refine E_aload_n rfl rfl ?_
  refine E_aload_n rfl rfl ?_
  refine E_iload_n rfl rfl ?_
  refine E_iconst (x := 1) rfl (by decide) ?_
  refine E_iadd (z := 1) rfl (by decide) ?_
  refine E_tload (x := a1) (j := 1) (t := 2) rfl rfl rfl (by decide) rfl (by decide) (by decide) rfl ?_
  refine E_callV (v := some (.int r)) (As := [.ref 0, .int a1]) (r0 := []) (cs2 := cs1) rfl rfl rfl (Nat.le_of_ble_eq_true rfl) rfl rfl hx (by decide) (by omega) ?_
  refine E_aload_n rfl rfl ?_
  refine E_aload_n rfl rfl ?_
  refine E_iload_n rfl rfl ?_
  refine E_iconst (x := 1) rfl (by decide) ?_
  refine E_iadd (z := 1) rfl (by decide) ?_
  refine E_tload (x := a1) (j := 1) (t := 2) rfl (List.getElem?_eq_none (by omega)) rfl (by decide) rfl (by decide) (by decide) rfl ?_
  refine E_callV (v := some (.int r)) (As := [.ref 65, .int a1]) (r0 := [.int r]) (cs2 := cs2) rfl rfl rfl (Nat.le_of_ble_eq_true rfl) rfl (hrv _) hm (by decide) (by omega) ?_
  refine E_ic (t := 1452) (b := true) rfl rfl (decide_eq_true rfl) ?_
  refine E_iinc (y := 6) (L2 := [some (.ref 1000002), some (.ref 0), some (.ref 65), some (.int 6)]) rfl rfl (by decide) rfl ?_
  refine E_goto (t := 18) rfl rfl ?_
  refine E_iload_n rfl rfl ?_
  refine E_aload_n rfl rfl ?_
  refine E_tlen (n := 6) (t := 2) rfl (List.getElem?_eq_none (by omega)) rfl (by decide) rfl rfl ?_
  refine E_bipush (x := 6) rfl (by decide) ?_
  refine E_isub (z := 0) rfl (by decide) ?_
  refine E_ic (t := 1458) (b := true) rfl rfl (by decide) ?_
  refine E_iconst (x := 1) rfl (by decide) ?_
  exact E_iret rfl rfl
theorem law_33 {a0 a1 a2 a3 a4 a5 : Int32} (h0 : a0 &&& 63 = 33) {r : Int32} {cs1 cs2 : List ab_C} (hx : Ev ab_Z0 1 109 [.ref 0, .int a1] w0 (some (.int r), cs1)) (hm : Ev ab_Z0 1 203 [.ref 65, .int a1] cs1 (some (.int r), cs2)) (l1 : cs1.length = 95) (l2 : cs2.length = 95) (hrv : ∀ l, ab_rv ab_G 6 (.ref 65 :: l) cs1 = true) : Ef (3, ab_Tb ++ [[a0, a1, a2, a3, a4, a5]]) 8 mL_law (27, [some (.ref 1000002), some (.ref 0), some (.ref 65), some (.int 0)], [], w0) (some (.int 1), cs2) := by
  have hw : w0.length = 95 := rfl
  refine E_aload_n rfl rfl ?_
  refine E_iload_n rfl rfl ?_
  refine E_tload (x := a0) (j := 0) (t := 2) rfl rfl rfl (by decide) rfl (by decide) (by decide) rfl ?_
  refine E_bipush (x := 63) rfl (by decide) ?_
  refine E_iand (z := 33) rfl h0 ?_
  refine E_tsIn (off := 1281) (t := 1314) rfl (by decide) rfl rfl ?_
  refine E_aload_n rfl rfl ?_
  refine E_aload_n rfl rfl ?_
  refine E_iload_n rfl rfl ?_
  refine E_iconst (x := 1) rfl (by decide) ?_
  refine E_iadd (z := 1) rfl (by decide) ?_
  refine E_tload (x := a1) (j := 1) (t := 2) rfl rfl rfl (by decide) rfl (by decide) (by decide) rfl ?_
  refine E_callV (v := some (.int r)) (As := [.ref 0, .int a1]) (r0 := []) (cs2 := cs1) rfl rfl rfl (Nat.le_of_ble_eq_true rfl) rfl rfl hx (by decide) (by omega) ?_
  refine E_aload_n rfl rfl ?_
  refine E_aload_n rfl rfl ?_
  refine E_iload_n rfl rfl ?_
  refine E_iconst (x := 1) rfl (by decide) ?_
  refine E_iadd (z := 1) rfl (by decide) ?_
  refine E_tload (x := a1) (j := 1) (t := 2) rfl (List.getElem?_eq_none (by omega)) rfl (by decide) rfl (by decide) (by decide) rfl ?_
  refine E_callV (v := some (.int r)) (As := [.ref 65, .int a1]) (r0 := [.int r]) (cs2 := cs2) rfl rfl rfl (Nat.le_of_ble_eq_true rfl) rfl (hrv _) hm (by decide) (by omega) ?_
  refine E_ic (t := 1452) (b := true) rfl rfl (decide_eq_true rfl) ?_
  refine E_iinc (y := 6) (L2 := [some (.ref 1000002), some (.ref 0), some (.ref 65), some (.int 6)]) rfl rfl (by decide) rfl ?_
  refine E_goto (t := 18) rfl rfl ?_
  refine E_iload_n rfl rfl ?_
  refine E_aload_n rfl rfl ?_
  refine E_tlen (n := 6) (t := 2) rfl (List.getElem?_eq_none (by omega)) rfl (by decide) rfl rfl ?_
  refine E_bipush (x := 6) rfl (by decide) ?_
  refine E_isub (z := 0) rfl (by decide) ?_
  refine E_ic (t := 1458) (b := true) rfl rfl (by decide) ?_
  refine E_iconst (x := 1) rfl (by decide) ?_
  exact E_iret rfl rfl
theorem law_34 {a0 a1 a2 a3 a4 a5 : Int32} (h0 : a0 &&& 63 = 34) {r : Int32} {cs1 cs2 : List ab_C} (hx : Ev ab_Z0 5 110 [.ref 0, .int a1, .int a2, .int a3] w0 (some (.int r), cs1)) (hm : Ev ab_Z0 5 208 [.ref 65, .int a1, .int a2, .int a3] cs1 (some (.int r), cs2)) (l1 : cs1.length = 95) (l2 : cs2.length = 95) (hrv : ∀ l, ab_rv ab_G 6 (.ref 65 :: l) cs1 = true) : Ef (3, ab_Tb ++ [[a0, a1, a2, a3, a4, a5]]) 8 mL_law (27, [some (.ref 1000002), some (.ref 0), some (.ref 65), some (.int 0)], [], w0) (some (.int 1), cs2) := by
  have hw : w0.length = 95 := rfl
  refine E_aload_n rfl rfl ?_
  refine E_iload_n rfl rfl ?_
  refine E_tload (x := a0) (j := 0) (t := 2) rfl rfl rfl (by decide) rfl (by decide) (by decide) rfl ?_
  refine E_bipush (x := 63) rfl (by decide) ?_
  refine E_iand (z := 34) rfl h0 ?_
  refine E_tsIn (off := 1304) (t := 1337) rfl (by decide) rfl rfl ?_
  refine E_aload_n rfl rfl ?_
  refine E_aload_n rfl rfl ?_
  refine E_iload_n rfl rfl ?_
  refine E_iconst (x := 1) rfl (by decide) ?_
  refine E_iadd (z := 1) rfl (by decide) ?_
  refine E_tload (x := a1) (j := 1) (t := 2) rfl rfl rfl (by decide) rfl (by decide) (by decide) rfl ?_
  refine E_aload_n rfl rfl ?_
  refine E_iload_n rfl rfl ?_
  refine E_iconst (x := 2) rfl (by decide) ?_
  refine E_iadd (z := 2) rfl (by decide) ?_
  refine E_tload (x := a2) (j := 2) (t := 2) rfl rfl rfl (by decide) rfl (by decide) (by decide) rfl ?_
  refine E_aload_n rfl rfl ?_
  refine E_iload_n rfl rfl ?_
  refine E_iconst (x := 3) rfl (by decide) ?_
  refine E_iadd (z := 3) rfl (by decide) ?_
  refine E_tload (x := a3) (j := 3) (t := 2) rfl rfl rfl (by decide) rfl (by decide) (by decide) rfl ?_
  refine E_callV (v := some (.int r)) (As := [.ref 0, .int a1, .int a2, .int a3]) (r0 := []) (cs2 := cs1) rfl rfl rfl (Nat.le_of_ble_eq_true rfl) rfl rfl hx (by decide) (by omega) ?_
  refine E_aload_n rfl rfl ?_
  refine E_aload_n rfl rfl ?_
  refine E_iload_n rfl rfl ?_
  refine E_iconst (x := 1) rfl (by decide) ?_
  refine E_iadd (z := 1) rfl (by decide) ?_
  refine E_tload (x := a1) (j := 1) (t := 2) rfl (List.getElem?_eq_none (by omega)) rfl (by decide) rfl (by decide) (by decide) rfl ?_
  refine E_aload_n rfl rfl ?_
  refine E_iload_n rfl rfl ?_
  refine E_iconst (x := 2) rfl (by decide) ?_
  refine E_iadd (z := 2) rfl (by decide) ?_
  refine E_tload (x := a2) (j := 2) (t := 2) rfl (List.getElem?_eq_none (by omega)) rfl (by decide) rfl (by decide) (by decide) rfl ?_
  refine E_aload_n rfl rfl ?_
  refine E_iload_n rfl rfl ?_
  refine E_iconst (x := 3) rfl (by decide) ?_
  refine E_iadd (z := 3) rfl (by decide) ?_
  refine E_tload (x := a3) (j := 3) (t := 2) rfl (List.getElem?_eq_none (by omega)) rfl (by decide) rfl (by decide) (by decide) rfl ?_
  refine E_callV (v := some (.int r)) (As := [.ref 65, .int a1, .int a2, .int a3]) (r0 := [.int r]) (cs2 := cs2) rfl rfl rfl (Nat.le_of_ble_eq_true rfl) rfl (hrv _) hm (by decide) (by omega) ?_
  refine E_ic (t := 1452) (b := true) rfl rfl (decide_eq_true rfl) ?_
  refine E_iinc (y := 6) (L2 := [some (.ref 1000002), some (.ref 0), some (.ref 65), some (.int 6)]) rfl rfl (by decide) rfl ?_
  refine E_goto (t := 18) rfl rfl ?_
  refine E_iload_n rfl rfl ?_
  refine E_aload_n rfl rfl ?_
  refine E_tlen (n := 6) (t := 2) rfl (List.getElem?_eq_none (by omega)) rfl (by decide) rfl rfl ?_
  refine E_bipush (x := 6) rfl (by decide) ?_
  refine E_isub (z := 0) rfl (by decide) ?_
  refine E_ic (t := 1458) (b := true) rfl rfl (by decide) ?_
  refine E_iconst (x := 1) rfl (by decide) ?_
  exact E_iret rfl rfl
theorem law_35 {a0 a1 a2 a3 a4 a5 : Int32} (h0 : a0 &&& 63 = 35) {r : Int32} {cs1 cs2 : List ab_C} (hx : Ev ab_Z0 2 111 [.ref 0, .int a1] w0 (some (.int r), cs1)) (hm : Ev ab_Z0 1 209 [.ref 65, .int a1] cs1 (some (.int r), cs2)) (l1 : cs1.length = 95) (l2 : cs2.length = 95) (hrv : ∀ l, ab_rv ab_G 6 (.ref 65 :: l) cs1 = true) : Ef (3, ab_Tb ++ [[a0, a1, a2, a3, a4, a5]]) 8 mL_law (27, [some (.ref 1000002), some (.ref 0), some (.ref 65), some (.int 0)], [], w0) (some (.int 1), cs2) := by
  have hw : w0.length = 95 := rfl
  refine E_aload_n rfl rfl ?_
  refine E_iload_n rfl rfl ?_
  refine E_tload (x := a0) (j := 0) (t := 2) rfl rfl rfl (by decide) rfl (by decide) (by decide) rfl ?_
  refine E_bipush (x := 63) rfl (by decide) ?_
  refine E_iand (z := 35) rfl h0 ?_
  refine E_tsIn (off := 1347) (t := 1380) rfl (by decide) rfl rfl ?_
  refine E_aload_n rfl rfl ?_
  refine E_aload_n rfl rfl ?_
  refine E_iload_n rfl rfl ?_
  refine E_iconst (x := 1) rfl (by decide) ?_
  refine E_iadd (z := 1) rfl (by decide) ?_
  refine E_tload (x := a1) (j := 1) (t := 2) rfl rfl rfl (by decide) rfl (by decide) (by decide) rfl ?_
  refine E_callV (v := some (.int r)) (As := [.ref 0, .int a1]) (r0 := []) (cs2 := cs1) rfl rfl rfl (Nat.le_of_ble_eq_true rfl) rfl rfl hx (by decide) (by omega) ?_
  refine E_aload_n rfl rfl ?_
  refine E_aload_n rfl rfl ?_
  refine E_iload_n rfl rfl ?_
  refine E_iconst (x := 1) rfl (by decide) ?_
  refine E_iadd (z := 1) rfl (by decide) ?_
  refine E_tload (x := a1) (j := 1) (t := 2) rfl (List.getElem?_eq_none (by omega)) rfl (by decide) rfl (by decide) (by decide) rfl ?_
  refine E_callV (v := some (.int r)) (As := [.ref 65, .int a1]) (r0 := [.int r]) (cs2 := cs2) rfl rfl rfl (Nat.le_of_ble_eq_true rfl) rfl (hrv _) hm (by decide) (by omega) ?_
  refine E_ic (t := 1452) (b := true) rfl rfl (decide_eq_true rfl) ?_
  refine E_iinc (y := 6) (L2 := [some (.ref 1000002), some (.ref 0), some (.ref 65), some (.int 6)]) rfl rfl (by decide) rfl ?_
  refine E_goto (t := 18) rfl rfl ?_
  refine E_iload_n rfl rfl ?_
  refine E_aload_n rfl rfl ?_
  refine E_tlen (n := 6) (t := 2) rfl (List.getElem?_eq_none (by omega)) rfl (by decide) rfl rfl ?_
  refine E_bipush (x := 6) rfl (by decide) ?_
  refine E_isub (z := 0) rfl (by decide) ?_
  refine E_ic (t := 1458) (b := true) rfl rfl (by decide) ?_
  refine E_iconst (x := 1) rfl (by decide) ?_
  exact E_iret rfl rfl
theorem law_36 {a0 a1 a2 a3 a4 a5 : Int32} (h0 : a0 &&& 63 = 36) {r : Int32} {cs1 cs2 : List ab_C} (hx : Ev ab_Z0 2 112 [.ref 0] w0 (some (.int r), cs1)) (hm : Ev ab_Z0 3 210 [.ref 65] cs1 (some (.int r), cs2)) (l1 : cs1.length = 95) (l2 : cs2.length = 95) (hrv : ∀ l, ab_rv ab_G 6 (.ref 65 :: l) cs1 = true) : Ef (3, ab_Tb ++ [[a0, a1, a2, a3, a4, a5]]) 8 mL_law (27, [some (.ref 1000002), some (.ref 0), some (.ref 65), some (.int 0)], [], w0) (some (.int 1), cs2) := by
  have hw : w0.length = 95 := rfl
  refine E_aload_n rfl rfl ?_
  refine E_iload_n rfl rfl ?_
  refine E_tload (x := a0) (j := 0) (t := 2) rfl rfl rfl (by decide) rfl (by decide) (by decide) rfl ?_
  refine E_bipush (x := 63) rfl (by decide) ?_
  refine E_iand (z := 36) rfl h0 ?_
  refine E_tsIn (off := 1370) (t := 1403) rfl (by decide) rfl rfl ?_
  refine E_aload_n rfl rfl ?_
  refine E_callV (v := some (.int r)) (As := [.ref 0]) (r0 := []) (cs2 := cs1) rfl rfl rfl (Nat.le_of_ble_eq_true rfl) rfl rfl hx (by decide) (by omega) ?_
  refine E_aload_n rfl rfl ?_
  refine E_callV (v := some (.int r)) (As := [.ref 65]) (r0 := [.int r]) (cs2 := cs2) rfl rfl rfl (Nat.le_of_ble_eq_true rfl) rfl (hrv _) hm (by decide) (by omega) ?_
  refine E_ic (t := 1452) (b := true) rfl rfl (decide_eq_true rfl) ?_
  refine E_iinc (y := 6) (L2 := [some (.ref 1000002), some (.ref 0), some (.ref 65), some (.int 6)]) rfl rfl (by decide) rfl ?_
  refine E_goto (t := 18) rfl rfl ?_
  refine E_iload_n rfl rfl ?_
  refine E_aload_n rfl rfl ?_
  refine E_tlen (n := 6) (t := 2) rfl (List.getElem?_eq_none (by omega)) rfl (by decide) rfl rfl ?_
  refine E_bipush (x := 6) rfl (by decide) ?_
  refine E_isub (z := 0) rfl (by decide) ?_
  refine E_ic (t := 1458) (b := true) rfl rfl (by decide) ?_
  refine E_iconst (x := 1) rfl (by decide) ?_
  exact E_iret rfl rfl
theorem law_37 {a0 a1 a2 a3 a4 a5 : Int32} (h0 : a0 &&& 63 = 37) {r : Int32} {cs1 cs2 : List ab_C} (hx : Ev ab_Z0 3 113 [.ref 0] w0 (some (.int r), cs1)) (hm : Ev ab_Z0 3 211 [.ref 65] cs1 (some (.int r), cs2)) (l1 : cs1.length = 95) (l2 : cs2.length = 95) (hrv : ∀ l, ab_rv ab_G 6 (.ref 65 :: l) cs1 = true) : Ef (3, ab_Tb ++ [[a0, a1, a2, a3, a4, a5]]) 8 mL_law (27, [some (.ref 1000002), some (.ref 0), some (.ref 65), some (.int 0)], [], w0) (some (.int 1), cs2) := by
  have hw : w0.length = 95 := rfl
  refine E_aload_n rfl rfl ?_
  refine E_iload_n rfl rfl ?_
  refine E_tload (x := a0) (j := 0) (t := 2) rfl rfl rfl (by decide) rfl (by decide) (by decide) rfl ?_
  refine E_bipush (x := 63) rfl (by decide) ?_
  refine E_iand (z := 37) rfl h0 ?_
  refine E_tsIn (off := 1383) (t := 1416) rfl (by decide) rfl rfl ?_
  refine E_aload_n rfl rfl ?_
  refine E_callV (v := some (.int r)) (As := [.ref 0]) (r0 := []) (cs2 := cs1) rfl rfl rfl (Nat.le_of_ble_eq_true rfl) rfl rfl hx (by decide) (by omega) ?_
  refine E_aload_n rfl rfl ?_
  refine E_callV (v := some (.int r)) (As := [.ref 65]) (r0 := [.int r]) (cs2 := cs2) rfl rfl rfl (Nat.le_of_ble_eq_true rfl) rfl (hrv _) hm (by decide) (by omega) ?_
  refine E_ic (t := 1452) (b := true) rfl rfl (decide_eq_true rfl) ?_
  refine E_iinc (y := 6) (L2 := [some (.ref 1000002), some (.ref 0), some (.ref 65), some (.int 6)]) rfl rfl (by decide) rfl ?_
  refine E_goto (t := 18) rfl rfl ?_
  refine E_iload_n rfl rfl ?_
  refine E_aload_n rfl rfl ?_
  refine E_tlen (n := 6) (t := 2) rfl (List.getElem?_eq_none (by omega)) rfl (by decide) rfl rfl ?_
  refine E_bipush (x := 6) rfl (by decide) ?_
  refine E_isub (z := 0) rfl (by decide) ?_
  refine E_ic (t := 1458) (b := true) rfl rfl (by decide) ?_
  refine E_iconst (x := 1) rfl (by decide) ?_
  exact E_iret rfl rfl
theorem law_38 {a0 a1 a2 a3 a4 a5 : Int32} (h0 : a0 &&& 63 = 38) {r : Int32} {cs1 cs2 : List ab_C} (hx : Ev ab_Z0 3 114 [.ref 0, .int a1] w0 (some (.int r), cs1)) (hm : Ev ab_Z0 3 212 [.ref 65, .int a1] cs1 (some (.int r), cs2)) (l1 : cs1.length = 95) (l2 : cs2.length = 95) (hrv : ∀ l, ab_rv ab_G 6 (.ref 65 :: l) cs1 = true) : Ef (3, ab_Tb ++ [[a0, a1, a2, a3, a4, a5]]) 8 mL_law (27, [some (.ref 1000002), some (.ref 0), some (.ref 65), some (.int 0)], [], w0) (some (.int 1), cs2) := by
  have hw : w0.length = 95 := rfl
  refine E_aload_n rfl rfl ?_
  refine E_iload_n rfl rfl ?_
  refine E_tload (x := a0) (j := 0) (t := 2) rfl rfl rfl (by decide) rfl (by decide) (by decide) rfl ?_
  refine E_bipush (x := 63) rfl (by decide) ?_
  refine E_iand (z := 38) rfl h0 ?_
  refine E_tsIn (off := 1396) (t := 1429) rfl (by decide) rfl rfl ?_
  refine E_aload_n rfl rfl ?_
  refine E_aload_n rfl rfl ?_
  refine E_iload_n rfl rfl ?_
  refine E_iconst (x := 1) rfl (by decide) ?_
  refine E_iadd (z := 1) rfl (by decide) ?_
  refine E_tload (x := a1) (j := 1) (t := 2) rfl rfl rfl (by decide) rfl (by decide) (by decide) rfl ?_
  refine E_callV (v := some (.int r)) (As := [.ref 0, .int a1]) (r0 := []) (cs2 := cs1) rfl rfl rfl (Nat.le_of_ble_eq_true rfl) rfl rfl hx (by decide) (by omega) ?_
  refine E_aload_n rfl rfl ?_
  refine E_aload_n rfl rfl ?_
  refine E_iload_n rfl rfl ?_
  refine E_iconst (x := 1) rfl (by decide) ?_
  refine E_iadd (z := 1) rfl (by decide) ?_
  refine E_tload (x := a1) (j := 1) (t := 2) rfl (List.getElem?_eq_none (by omega)) rfl (by decide) rfl (by decide) (by decide) rfl ?_
  refine E_callV (v := some (.int r)) (As := [.ref 65, .int a1]) (r0 := [.int r]) (cs2 := cs2) rfl rfl rfl (Nat.le_of_ble_eq_true rfl) rfl (hrv _) hm (by decide) (by omega) ?_
  refine E_ic (t := 1452) (b := true) rfl rfl (decide_eq_true rfl) ?_
  refine E_iinc (y := 6) (L2 := [some (.ref 1000002), some (.ref 0), some (.ref 65), some (.int 6)]) rfl rfl (by decide) rfl ?_
  refine E_goto (t := 18) rfl rfl ?_
  refine E_iload_n rfl rfl ?_
  refine E_aload_n rfl rfl ?_
  refine E_tlen (n := 6) (t := 2) rfl (List.getElem?_eq_none (by omega)) rfl (by decide) rfl rfl ?_
  refine E_bipush (x := 6) rfl (by decide) ?_
  refine E_isub (z := 0) rfl (by decide) ?_
  refine E_ic (t := 1458) (b := true) rfl rfl (by decide) ?_
  refine E_iconst (x := 1) rfl (by decide) ?_
  exact E_iret rfl rfl
theorem law_d {a0 a1 a2 a3 a4 a5 : Int32} (hk : (38 : Int) < (a0 &&& 63).toInt) : Ef (3, ab_Tb ++ [[a0, a1, a2, a3, a4, a5]]) 8 mL_law (27, [some (.ref 1000002), some (.ref 0), some (.ref 65), some (.int 0)], [], w0) (some (.int 1), w0) := by
  refine E_aload_n rfl rfl ?_
  refine E_iload_n rfl rfl ?_
  refine E_tload (x := a0) (j := 0) (t := 2) rfl rfl rfl (by decide) rfl (by decide) (by decide) rfl ?_
  refine E_bipush (x := 63) rfl (by decide) ?_
  refine E_iand (z := (a0 &&& 63)) rfl rfl ?_
  refine E_tsOut (t := 1452) rfl (Or.inr hk) rfl ?_
  refine E_iinc (y := 6) (L2 := [some (.ref 1000002), some (.ref 0), some (.ref 65), some (.int 6)]) rfl rfl (by decide) rfl ?_
  refine E_goto (t := 18) rfl rfl ?_
  refine E_iload_n rfl rfl ?_
  refine E_aload_n rfl rfl ?_
  refine E_tlen (n := 6) (t := 2) rfl rfl rfl (by decide) rfl rfl ?_
  refine E_bipush (x := 6) rfl (by decide) ?_
  refine E_isub (z := 0) rfl (by decide) ?_
  refine E_ic (t := 1458) (b := true) rfl rfl (by decide) ?_
  refine E_iconst (x := 1) rfl (by decide) ?_
  exact E_iret rfl rfl
theorem law_s0 : Ef (3, ab_Tb ++ [[]]) 8 mL_law (18, [some (.ref 1000002), some (.ref 0), some (.ref 65), some (.int 0)], [], w0) (some (.int 1), w0) := by
  refine E_iload_n rfl rfl ?_
  refine E_aload_n rfl rfl ?_
  refine E_tlen (n := 0) (t := 2) rfl rfl rfl (by decide) rfl rfl ?_
  refine E_bipush (x := 6) rfl (by decide) ?_
  refine E_isub (z := (-6)) rfl (by decide) ?_
  refine E_ic (t := 1458) (b := true) rfl rfl (by decide) ?_
  refine E_iconst (x := 1) rfl (by decide) ?_
  exact E_iret rfl rfl
theorem law_s1 {a0 : Int32} : Ef (3, ab_Tb ++ [[a0]]) 8 mL_law (18, [some (.ref 1000002), some (.ref 0), some (.ref 65), some (.int 0)], [], w0) (some (.int 1), w0) := by
  refine E_iload_n rfl rfl ?_
  refine E_aload_n rfl rfl ?_
  refine E_tlen (n := 1) (t := 2) rfl rfl rfl (by decide) rfl rfl ?_
  refine E_bipush (x := 6) rfl (by decide) ?_
  refine E_isub (z := (-5)) rfl (by decide) ?_
  refine E_ic (t := 1458) (b := true) rfl rfl (by decide) ?_
  refine E_iconst (x := 1) rfl (by decide) ?_
  exact E_iret rfl rfl
theorem law_s2 {a0 a1 : Int32} : Ef (3, ab_Tb ++ [[a0, a1]]) 8 mL_law (18, [some (.ref 1000002), some (.ref 0), some (.ref 65), some (.int 0)], [], w0) (some (.int 1), w0) := by
  refine E_iload_n rfl rfl ?_
  refine E_aload_n rfl rfl ?_
  refine E_tlen (n := 2) (t := 2) rfl rfl rfl (by decide) rfl rfl ?_
  refine E_bipush (x := 6) rfl (by decide) ?_
  refine E_isub (z := (-4)) rfl (by decide) ?_
  refine E_ic (t := 1458) (b := true) rfl rfl (by decide) ?_
  refine E_iconst (x := 1) rfl (by decide) ?_
  exact E_iret rfl rfl
theorem law_s3 {a0 a1 a2 : Int32} : Ef (3, ab_Tb ++ [[a0, a1, a2]]) 8 mL_law (18, [some (.ref 1000002), some (.ref 0), some (.ref 65), some (.int 0)], [], w0) (some (.int 1), w0) := by
  refine E_iload_n rfl rfl ?_
  refine E_aload_n rfl rfl ?_
  refine E_tlen (n := 3) (t := 2) rfl rfl rfl (by decide) rfl rfl ?_
  refine E_bipush (x := 6) rfl (by decide) ?_
  refine E_isub (z := (-3)) rfl (by decide) ?_
  refine E_ic (t := 1458) (b := true) rfl rfl (by decide) ?_
  refine E_iconst (x := 1) rfl (by decide) ?_
  exact E_iret rfl rfl
theorem law_s4 {a0 a1 a2 a3 : Int32} : Ef (3, ab_Tb ++ [[a0, a1, a2, a3]]) 8 mL_law (18, [some (.ref 1000002), some (.ref 0), some (.ref 65), some (.int 0)], [], w0) (some (.int 1), w0) := by
  refine E_iload_n rfl rfl ?_
  refine E_aload_n rfl rfl ?_
  refine E_tlen (n := 4) (t := 2) rfl rfl rfl (by decide) rfl rfl ?_
  refine E_bipush (x := 6) rfl (by decide) ?_
  refine E_isub (z := (-2)) rfl (by decide) ?_
  refine E_ic (t := 1458) (b := true) rfl rfl (by decide) ?_
  refine E_iconst (x := 1) rfl (by decide) ?_
  exact E_iret rfl rfl
theorem law_s5 {a0 a1 a2 a3 a4 : Int32} : Ef (3, ab_Tb ++ [[a0, a1, a2, a3, a4]]) 8 mL_law (18, [some (.ref 1000002), some (.ref 0), some (.ref 65), some (.int 0)], [], w0) (some (.int 1), w0) := by
  refine E_iload_n rfl rfl ?_
  refine E_aload_n rfl rfl ?_
  refine E_tlen (n := 5) (t := 2) rfl rfl rfl (by decide) rfl rfl ?_
  refine E_bipush (x := 6) rfl (by decide) ?_
  refine E_isub (z := (-1)) rfl (by decide) ?_
  refine E_ic (t := 1458) (b := true) rfl rfl (by decide) ?_
  refine E_iconst (x := 1) rfl (by decide) ?_
  exact E_iret rfl rfl
theorem law_s6 {a0 a1 a2 a3 a4 a5 : Int32} {r : Option Value × List ab_C} (K : Ef (3, ab_Tb ++ [[a0, a1, a2, a3, a4, a5]]) 8 mL_law (27, [some (.ref 1000002), some (.ref 0), some (.ref 65), some (.int 0)], [], w0) r) : Ef (3, ab_Tb ++ [[a0, a1, a2, a3, a4, a5]]) 8 mL_law (18, [some (.ref 1000002), some (.ref 0), some (.ref 65), some (.int 0)], [], w0) r := by
  refine E_iload_n rfl rfl ?_
  refine E_aload_n rfl rfl ?_
  refine E_tlen (n := 6) (t := 2) rfl rfl rfl (by decide) rfl rfl ?_
  refine E_bipush (x := 6) rfl (by decide) ?_
  refine E_isub (z := 0) rfl (by decide) ?_
  refine E_ic (t := 1458) (b := false) rfl rfl (by decide) ?_
  exact K
theorem law_start {T : List (List Int32)} {r : Option Value × List ab_C} (K : Ef (3, ab_Tb ++ T) 8 mL_law (18, [some (.ref 1000002), some (.ref 0), some (.ref 65), some (.int 0)], [], w0) r) : Ef (3, ab_Tb ++ T) 8 mL_law (0, [some (.ref 1000002), none, none, none], [], []) r := by
  refine E_new (q := 0) rfl rfl rfl ⟨by decide, rfl⟩ ?_
  refine E_dup rfl rfl ?_
  refine E_init (As := [.ref 0]) (r0 := [.ref 0]) (cs2 := wx) rfl rfl rfl (Nat.le_of_ble_eq_true rfl) rfl ⟨rfl, rfl, rfl⟩ ev_X5_init (by decide) rfl ?_
  refine E_astore_n (L2 := [some (.ref 1000002), some (.ref 0), none, none]) rfl rfl ?_
  refine E_new (q := 65) rfl rfl rfl ⟨by decide +kernel, by decide +kernel⟩ ?_
  refine E_dup rfl rfl ?_
  refine E_init (As := [.ref 65]) (r0 := [.ref 65]) (cs2 := w0) rfl rfl rfl (Nat.le_of_ble_eq_true rfl) rfl ⟨rfl, rfl, rfl⟩ ev_X6_init (by decide) (by decide +kernel) ?_
  refine E_astore_n (L2 := [some (.ref 1000002), some (.ref 0), some (.ref 65), none]) rfl rfl ?_
  refine E_iconst (x := 0) rfl (by decide) ?_
  exact E_istore_n (L2 := [some (.ref 1000002), some (.ref 0), some (.ref 65), some (.int 0)]) rfl rfl K
