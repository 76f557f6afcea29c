theorem c64_X3_isOfOtherSort : Ev ab_Z0 2 34 [.ref 49, .ref 49] w0 (some (.int 0), w0) := by
  refine Ef.in (md := mX3_isOfOtherSort) (L := [some (.ref 49), some (.ref 49)]) rfl (Nat.le_of_ble_eq_true rfl) rfl ?_
  refine E_aload_n rfl rfl ?_
  refine E_callV (v := some (.int 1)) (As := [.ref 49]) (r0 := []) (cs2 := w0) rfl rfl rfl (Nat.le_of_ble_eq_true rfl) rfl rfl c31_X3_isEmpty (by decide) rfl ?_
  refine E_if (t := 29) (b := true) rfl rfl (by decide) ?_
  refine E_iconst (x := 0) rfl (by decide) ?_
  exact E_iret rfl rfl
theorem c65_X3_isOfOtherSort : Ev ab_Z0 2 34 [.ref 49, .ref 51] w0 (some (.int 0), w0) := by
  refine Ef.in (md := mX3_isOfOtherSort) (L := [some (.ref 49), some (.ref 51)]) rfl (Nat.le_of_ble_eq_true rfl) rfl ?_
  refine E_aload_n rfl rfl ?_
  refine E_callV (v := some (.int 1)) (As := [.ref 49]) (r0 := []) (cs2 := w0) rfl rfl rfl (Nat.le_of_ble_eq_true rfl) rfl rfl c31_X3_isEmpty (by decide) rfl ?_
  refine E_if (t := 29) (b := true) rfl rfl (by decide) ?_
  refine E_iconst (x := 0) rfl (by decide) ?_
  exact E_iret rfl rfl
theorem c66_X3_isOfOtherSort : Ev ab_Z0 2 34 [.ref 49, .ref 53] w0 (some (.int 0), w0) := by
  refine Ef.in (md := mX3_isOfOtherSort) (L := [some (.ref 49), some (.ref 53)]) rfl (Nat.le_of_ble_eq_true rfl) rfl ?_
  refine E_aload_n rfl rfl ?_
  refine E_callV (v := some (.int 1)) (As := [.ref 49]) (r0 := []) (cs2 := w0) rfl rfl rfl (Nat.le_of_ble_eq_true rfl) rfl rfl c31_X3_isEmpty (by decide) rfl ?_
  refine E_if (t := 29) (b := true) rfl rfl (by decide) ?_
  refine E_iconst (x := 0) rfl (by decide) ?_
  exact E_iret rfl rfl
theorem c67_X3_isOfOtherSort : Ev ab_Z0 2 34 [.ref 49, .ref 55] w0 (some (.int 0), w0) := by
  refine Ef.in (md := mX3_isOfOtherSort) (L := [some (.ref 49), some (.ref 55)]) rfl (Nat.le_of_ble_eq_true rfl) rfl ?_
  refine E_aload_n rfl rfl ?_
  refine E_callV (v := some (.int 1)) (As := [.ref 49]) (r0 := []) (cs2 := w0) rfl rfl rfl (Nat.le_of_ble_eq_true rfl) rfl rfl c31_X3_isEmpty (by decide) rfl ?_
  refine E_if (t := 29) (b := true) rfl rfl (by decide) ?_
  refine E_iconst (x := 0) rfl (by decide) ?_
  exact E_iret rfl rfl
theorem c68_X3_isOfOtherSort : Ev ab_Z0 2 34 [.ref 49, .ref 57] w0 (some (.int 0), w0) := by
  refine Ef.in (md := mX3_isOfOtherSort) (L := [some (.ref 49), some (.ref 57)]) rfl (Nat.le_of_ble_eq_true rfl) rfl ?_
  refine E_aload_n rfl rfl ?_
  refine E_callV (v := some (.int 1)) (As := [.ref 49]) (r0 := []) (cs2 := w0) rfl rfl rfl (Nat.le_of_ble_eq_true rfl) rfl rfl c31_X3_isEmpty (by decide) rfl ?_
  refine E_if (t := 29) (b := true) rfl rfl (by decide) ?_
  refine E_iconst (x := 0) rfl (by decide) ?_
  exact E_iret rfl rfl
theorem c69_X3_isOfOtherSort : Ev ab_Z0 2 34 [.ref 49, .ref 59] w0 (some (.int 0), w0) := by
  refine Ef.in (md := mX3_isOfOtherSort) (L := [some (.ref 49), some (.ref 59)]) rfl (Nat.le_of_ble_eq_true rfl) rfl ?_
  refine E_aload_n rfl rfl ?_
  refine E_callV (v := some (.int 1)) (As := [.ref 49]) (r0 := []) (cs2 := w0) rfl rfl rfl (Nat.le_of_ble_eq_true rfl) rfl rfl c31_X3_isEmpty (by decide) rfl ?_
  refine E_if (t := 29) (b := true) rfl rfl (by decide) ?_
  refine E_iconst (x := 0) rfl (by decide) ?_
  exact E_iret rfl rfl
theorem c70_X3_isOfOtherSort : Ev ab_Z0 2 34 [.ref 49, .ref 61] w0 (some (.int 0), w0) := by
  refine Ef.in (md := mX3_isOfOtherSort) (L := [some (.ref 49), some (.ref 61)]) rfl (Nat.le_of_ble_eq_true rfl) rfl ?_
  refine E_aload_n rfl rfl ?_
  refine E_callV (v := some (.int 1)) (As := [.ref 49]) (r0 := []) (cs2 := w0) rfl rfl rfl (Nat.le_of_ble_eq_true rfl) rfl rfl c31_X3_isEmpty (by decide) rfl ?_
  refine E_if (t := 29) (b := true) rfl rfl (by decide) ?_
  refine E_iconst (x := 0) rfl (by decide) ?_
  exact E_iret rfl rfl
theorem c71_X3_isOfOtherSort : Ev ab_Z0 2 34 [.ref 49, .ref 63] w0 (some (.int 0), w0) := by
  refine Ef.in (md := mX3_isOfOtherSort) (L := [some (.ref 49), some (.ref 63)]) rfl (Nat.le_of_ble_eq_true rfl) rfl ?_
  refine E_aload_n rfl rfl ?_
  refine E_callV (v := some (.int 1)) (As := [.ref 49]) (r0 := []) (cs2 := w0) rfl rfl rfl (Nat.le_of_ble_eq_true rfl) rfl rfl c31_X3_isEmpty (by decide) rfl ?_
  refine E_if (t := 29) (b := true) rfl rfl (by decide) ?_
  refine E_iconst (x := 0) rfl (by decide) ?_
  exact E_iret rfl rfl
theorem c72_X3_isOfOtherSort : Ev ab_Z0 2 34 [.ref 51, .ref 49] w0 (some (.int 0), w0) := by
  refine Ef.in (md := mX3_isOfOtherSort) (L := [some (.ref 51), some (.ref 49)]) rfl (Nat.le_of_ble_eq_true rfl) rfl ?_
  refine E_aload_n rfl rfl ?_
  refine E_callV (v := some (.int 1)) (As := [.ref 51]) (r0 := []) (cs2 := w0) rfl rfl rfl (Nat.le_of_ble_eq_true rfl) rfl rfl c38_X3_isEmpty (by decide) rfl ?_
  refine E_if (t := 29) (b := true) rfl rfl (by decide) ?_
  refine E_iconst (x := 0) rfl (by decide) ?_
  exact E_iret rfl rfl
theorem c73_X3_isOfOtherSort : Ev ab_Z0 2 34 [.ref 51, .ref 51] w0 (some (.int 0), w0) := by
  refine Ef.in (md := mX3_isOfOtherSort) (L := [some (.ref 51), some (.ref 51)]) rfl (Nat.le_of_ble_eq_true rfl) rfl ?_
  refine E_aload_n rfl rfl ?_
  refine E_callV (v := some (.int 1)) (As := [.ref 51]) (r0 := []) (cs2 := w0) rfl rfl rfl (Nat.le_of_ble_eq_true rfl) rfl rfl c38_X3_isEmpty (by decide) rfl ?_
  refine E_if (t := 29) (b := true) rfl rfl (by decide) ?_
  refine E_iconst (x := 0) rfl (by decide) ?_
  exact E_iret rfl rfl
theorem c74_X3_isOfOtherSort : Ev ab_Z0 2 34 [.ref 51, .ref 53] w0 (some (.int 0), w0) := by
  refine Ef.in (md := mX3_isOfOtherSort) (L := [some (.ref 51), some (.ref 53)]) rfl (Nat.le_of_ble_eq_true rfl) rfl ?_
  refine E_aload_n rfl rfl ?_
  refine E_callV (v := some (.int 1)) (As := [.ref 51]) (r0 := []) (cs2 := w0) rfl rfl rfl (Nat.le_of_ble_eq_true rfl) rfl rfl c38_X3_isEmpty (by decide) rfl ?_
  refine E_if (t := 29) (b := true) rfl rfl (by decide) ?_
  refine E_iconst (x := 0) rfl (by decide) ?_
  exact E_iret rfl rfl
theorem c75_X3_isOfOtherSort : Ev ab_Z0 2 34 [.ref 51, .ref 55] w0 (some (.int 0), w0) := by
  refine Ef.in (md := mX3_isOfOtherSort) (L := [some (.ref 51), some (.ref 55)]) rfl (Nat.le_of_ble_eq_true rfl) rfl ?_
  refine E_aload_n rfl rfl ?_
  refine E_callV (v := some (.int 1)) (As := [.ref 51]) (r0 := []) (cs2 := w0) rfl rfl rfl (Nat.le_of_ble_eq_true rfl) rfl rfl c38_X3_isEmpty (by decide) rfl ?_
  refine E_if (t := 29) (b := true) rfl rfl (by decide) ?_
  refine E_iconst (x := 0) rfl (by decide) ?_
  exact E_iret rfl rfl
theorem c76_X3_isOfOtherSort : Ev ab_Z0 2 34 [.ref 51, .ref 57] w0 (some (.int 0), w0) := by
  refine Ef.in (md := mX3_isOfOtherSort) (L := [some (.ref 51), some (.ref 57)]) rfl (Nat.le_of_ble_eq_true rfl) rfl ?_
  refine E_aload_n rfl rfl ?_
  refine E_callV (v := some (.int 1)) (As := [.ref 51]) (r0 := []) (cs2 := w0) rfl rfl rfl (Nat.le_of_ble_eq_true rfl) rfl rfl c38_X3_isEmpty (by decide) rfl ?_
  refine E_if (t := 29) (b := true) rfl rfl (by decide) ?_
  refine E_iconst (x := 0) rfl (by decide) ?_
  exact E_iret rfl rfl
theorem c77_X3_isOfOtherSort : Ev ab_Z0 2 34 [.ref 51, .ref 59] w0 (some (.int 0), w0) := by
  refine Ef.in (md := mX3_isOfOtherSort) (L := [some (.ref 51), some (.ref 59)]) rfl (Nat.le_of_ble_eq_true rfl) rfl ?_
  refine E_aload_n rfl rfl ?_
  refine E_callV (v := some (.int 1)) (As := [.ref 51]) (r0 := []) (cs2 := w0) rfl rfl rfl (Nat.le_of_ble_eq_true rfl) rfl rfl c38_X3_isEmpty (by decide) rfl ?_
  refine E_if (t := 29) (b := true) rfl rfl (by decide) ?_
  refine E_iconst (x := 0) rfl (by decide) ?_
  exact E_iret rfl rfl
theorem c78_X3_isOfOtherSort : Ev ab_Z0 2 34 [.ref 51, .ref 61] w0 (some (.int 0), w0) := by
  refine Ef.in (md := mX3_isOfOtherSort) (L := [some (.ref 51), some (.ref 61)]) rfl (Nat.le_of_ble_eq_true rfl) rfl ?_
  refine E_aload_n rfl rfl ?_
  refine E_callV (v := some (.int 1)) (As := [.ref 51]) (r0 := []) (cs2 := w0) rfl rfl rfl (Nat.le_of_ble_eq_true rfl) rfl rfl c38_X3_isEmpty (by decide) rfl ?_
  refine E_if (t := 29) (b := true) rfl rfl (by decide) ?_
  refine E_iconst (x := 0) rfl (by decide) ?_
  exact E_iret rfl rfl
theorem c79_X3_isOfOtherSort : Ev ab_Z0 2 34 [.ref 51, .ref 63] w0 (some (.int 0), w0) := by
  refine Ef.in (md := mX3_isOfOtherSort) (L := [some (.ref 51), some (.ref 63)]) rfl (Nat.le_of_ble_eq_true rfl) rfl ?_
  refine E_aload_n rfl rfl ?_
  refine E_callV (v := some (.int 1)) (As := [.ref 51]) (r0 := []) (cs2 := w0) rfl rfl rfl (Nat.le_of_ble_eq_true rfl) rfl rfl c38_X3_isEmpty (by decide) rfl ?_
  refine E_if (t := 29) (b := true) rfl rfl (by decide) ?_
  refine E_iconst (x := 0) rfl (by decide) ?_
  exact E_iret rfl rfl
theorem c80_X3_isOfOtherSort : Ev ab_Z0 2 34 [.ref 53, .ref 49] w0 (some (.int 0), w0) := by
  refine Ef.in (md := mX3_isOfOtherSort) (L := [some (.ref 53), some (.ref 49)]) rfl (Nat.le_of_ble_eq_true rfl) rfl ?_
  refine E_aload_n rfl rfl ?_
  refine E_callV (v := some (.int 1)) (As := [.ref 53]) (r0 := []) (cs2 := w0) rfl rfl rfl (Nat.le_of_ble_eq_true rfl) rfl rfl c42_X3_isEmpty (by decide) rfl ?_
  refine E_if (t := 29) (b := true) rfl rfl (by decide) ?_
  refine E_iconst (x := 0) rfl (by decide) ?_
  exact E_iret rfl rfl
theorem c81_X3_isOfOtherSort : Ev ab_Z0 2 34 [.ref 53, .ref 51] w0 (some (.int 0), w0) := by
  refine Ef.in (md := mX3_isOfOtherSort) (L := [some (.ref 53), some (.ref 51)]) rfl (Nat.le_of_ble_eq_true rfl) rfl ?_
  refine E_aload_n rfl rfl ?_
  refine E_callV (v := some (.int 1)) (As := [.ref 53]) (r0 := []) (cs2 := w0) rfl rfl rfl (Nat.le_of_ble_eq_true rfl) rfl rfl c42_X3_isEmpty (by decide) rfl ?_
  refine E_if (t := 29) (b := true) rfl rfl (by decide) ?_
  refine E_iconst (x := 0) rfl (by decide) ?_
  exact E_iret rfl rfl
theorem c82_X3_isOfOtherSort : Ev ab_Z0 2 34 [.ref 53, .ref 53] w0 (some (.int 0), w0) := by
  refine Ef.in (md := mX3_isOfOtherSort) (L := [some (.ref 53), some (.ref 53)]) rfl (Nat.le_of_ble_eq_true rfl) rfl ?_
  refine E_aload_n rfl rfl ?_
  refine E_callV (v := some (.int 1)) (As := [.ref 53]) (r0 := []) (cs2 := w0) rfl rfl rfl (Nat.le_of_ble_eq_true rfl) rfl rfl c42_X3_isEmpty (by decide) rfl ?_
  refine E_if (t := 29) (b := true) rfl rfl (by decide) ?_
  refine E_iconst (x := 0) rfl (by decide) ?_
  exact E_iret rfl rfl
theorem c83_X3_isOfOtherSort : Ev ab_Z0 2 34 [.ref 53, .ref 55] w0 (some (.int 0), w0) := by
  refine Ef.in (md := mX3_isOfOtherSort) (L := [some (.ref 53), some (.ref 55)]) rfl (Nat.le_of_ble_eq_true rfl) rfl ?_
  refine E_aload_n rfl rfl ?_
  refine E_callV (v := some (.int 1)) (As := [.ref 53]) (r0 := []) (cs2 := w0) rfl rfl rfl (Nat.le_of_ble_eq_true rfl) rfl rfl c42_X3_isEmpty (by decide) rfl ?_
  refine E_if (t := 29) (b := true) rfl rfl (by decide) ?_
  refine E_iconst (x := 0) rfl (by decide) ?_
  exact E_iret rfl rfl
theorem c84_X3_isOfOtherSort : Ev ab_Z0 2 34 [.ref 53, .ref 57] w0 (some (.int 0), w0) := by
  refine Ef.in (md := mX3_isOfOtherSort) (L := [some (.ref 53), some (.ref 57)]) rfl (Nat.le_of_ble_eq_true rfl) rfl ?_
  refine E_aload_n rfl rfl ?_
  refine E_callV (v := some (.int 1)) (As := [.ref 53]) (r0 := []) (cs2 := w0) rfl rfl rfl (Nat.le_of_ble_eq_true rfl) rfl rfl c42_X3_isEmpty (by decide) rfl ?_
  refine E_if (t := 29) (b := true) rfl rfl (by decide) ?_
  refine E_iconst (x := 0) rfl (by decide) ?_
  exact E_iret rfl rfl
theorem c85_X3_isOfOtherSort : Ev ab_Z0 2 34 [.ref 53, .ref 59] w0 (some (.int 0), w0) := by
  refine Ef.in (md := mX3_isOfOtherSort) (L := [some (.ref 53), some (.ref 59)]) rfl (Nat.le_of_ble_eq_true rfl) rfl ?_
  refine E_aload_n rfl rfl ?_
  refine E_callV (v := some (.int 1)) (As := [.ref 53]) (r0 := []) (cs2 := w0) rfl rfl rfl (Nat.le_of_ble_eq_true rfl) rfl rfl c42_X3_isEmpty (by decide) rfl ?_
  refine E_if (t := 29) (b := true) rfl rfl (by decide) ?_
  refine E_iconst (x := 0) rfl (by decide) ?_
  exact E_iret rfl rfl
theorem c86_X3_isOfOtherSort : Ev ab_Z0 2 34 [.ref 53, .ref 61] w0 (some (.int 0), w0) := by
  refine Ef.in (md := mX3_isOfOtherSort) (L := [some (.ref 53), some (.ref 61)]) rfl (Nat.le_of_ble_eq_true rfl) rfl ?_
  refine E_aload_n rfl rfl ?_
  refine E_callV (v := some (.int 1)) (As := [.ref 53]) (r0 := []) (cs2 := w0) rfl rfl rfl (Nat.le_of_ble_eq_true rfl) rfl rfl c42_X3_isEmpty (by decide) rfl ?_
  refine E_if (t := 29) (b := true) rfl rfl (by decide) ?_
  refine E_iconst (x := 0) rfl (by decide) ?_
  exact E_iret rfl rfl
theorem c87_X3_isOfOtherSort : Ev ab_Z0 2 34 [.ref 53, .ref 63] w0 (some (.int 0), w0) := by
  refine Ef.in (md := mX3_isOfOtherSort) (L := [some (.ref 53), some (.ref 63)]) rfl (Nat.le_of_ble_eq_true rfl) rfl ?_
  refine E_aload_n rfl rfl ?_
  refine E_callV (v := some (.int 1)) (As := [.ref 53]) (r0 := []) (cs2 := w0) rfl rfl rfl (Nat.le_of_ble_eq_true rfl) rfl rfl c42_X3_isEmpty (by decide) rfl ?_
  refine E_if (t := 29) (b := true) rfl rfl (by decide) ?_
  refine E_iconst (x := 0) rfl (by decide) ?_
  exact E_iret rfl rfl
theorem c88_X3_isOfOtherSort : Ev ab_Z0 2 34 [.ref 55, .ref 49] w0 (some (.int 0), w0) := by
  refine Ef.in (md := mX3_isOfOtherSort) (L := [some (.ref 55), some (.ref 49)]) rfl (Nat.le_of_ble_eq_true rfl) rfl ?_
  refine E_aload_n rfl rfl ?_
  refine E_callV (v := some (.int 1)) (As := [.ref 55]) (r0 := []) (cs2 := w0) rfl rfl rfl (Nat.le_of_ble_eq_true rfl) rfl rfl c46_X3_isEmpty (by decide) rfl ?_
  refine E_if (t := 29) (b := true) rfl rfl (by decide) ?_
  refine E_iconst (x := 0) rfl (by decide) ?_
  exact E_iret rfl rfl
theorem c89_X3_isOfOtherSort : Ev ab_Z0 2 34 [.ref 55, .ref 51] w0 (some (.int 0), w0) := by
  refine Ef.in (md := mX3_isOfOtherSort) (L := [some (.ref 55), some (.ref 51)]) rfl (Nat.le_of_ble_eq_true rfl) rfl ?_
  refine E_aload_n rfl rfl ?_
  refine E_callV (v := some (.int 1)) (As := [.ref 55]) (r0 := []) (cs2 := w0) rfl rfl rfl (Nat.le_of_ble_eq_true rfl) rfl rfl c46_X3_isEmpty (by decide) rfl ?_
  refine E_if (t := 29) (b := true) rfl rfl (by decide) ?_
  refine E_iconst (x := 0) rfl (by decide) ?_
  exact E_iret rfl rfl
theorem c90_X3_isOfOtherSort : Ev ab_Z0 2 34 [.ref 55, .ref 53] w0 (some (.int 0), w0) := by
  refine Ef.in (md := mX3_isOfOtherSort) (L := [some (.ref 55), some (.ref 53)]) rfl (Nat.le_of_ble_eq_true rfl) rfl ?_
  refine E_aload_n rfl rfl ?_
  refine E_callV (v := some (.int 1)) (As := [.ref 55]) (r0 := []) (cs2 := w0) rfl rfl rfl (Nat.le_of_ble_eq_true rfl) rfl rfl c46_X3_isEmpty (by decide) rfl ?_
  refine E_if (t := 29) (b := true) rfl rfl (by decide) ?_
  refine E_iconst (x := 0) rfl (by decide) ?_
  exact E_iret rfl rfl
theorem c91_X3_isOfOtherSort : Ev ab_Z0 2 34 [.ref 55, .ref 55] w0 (some (.int 0), w0) := by
  refine Ef.in (md := mX3_isOfOtherSort) (L := [some (.ref 55), some (.ref 55)]) rfl (Nat.le_of_ble_eq_true rfl) rfl ?_
  refine E_aload_n rfl rfl ?_
  refine E_callV (v := some (.int 1)) (As := [.ref 55]) (r0 := []) (cs2 := w0) rfl rfl rfl (Nat.le_of_ble_eq_true rfl) rfl rfl c46_X3_isEmpty (by decide) rfl ?_
  refine E_if (t := 29) (b := true) rfl rfl (by decide) ?_
  refine E_iconst (x := 0) rfl (by decide) ?_
  exact E_iret rfl rfl
theorem c92_X3_isOfOtherSort : Ev ab_Z0 2 34 [.ref 55, .ref 57] w0 (some (.int 0), w0) := by
  refine Ef.in (md := mX3_isOfOtherSort) (L := [some (.ref 55), some (.ref 57)]) rfl (Nat.le_of_ble_eq_true rfl) rfl ?_
  refine E_aload_n rfl rfl ?_
  refine E_callV (v := some (.int 1)) (As := [.ref 55]) (r0 := []) (cs2 := w0) rfl rfl rfl (Nat.le_of_ble_eq_true rfl) rfl rfl c46_X3_isEmpty (by decide) rfl ?_
  refine E_if (t := 29) (b := true) rfl rfl (by decide) ?_
  refine E_iconst (x := 0) rfl (by decide) ?_
  exact E_iret rfl rfl
theorem c93_X3_isOfOtherSort : Ev ab_Z0 2 34 [.ref 55, .ref 59] w0 (some (.int 0), w0) := by
  refine Ef.in (md := mX3_isOfOtherSort) (L := [some (.ref 55), some (.ref 59)]) rfl (Nat.le_of_ble_eq_true rfl) rfl ?_
  refine E_aload_n rfl rfl ?_
  refine E_callV (v := some (.int 1)) (As := [.ref 55]) (r0 := []) (cs2 := w0) rfl rfl rfl (Nat.le_of_ble_eq_true rfl) rfl rfl c46_X3_isEmpty (by decide) rfl ?_
  refine E_if (t := 29) (b := true) rfl rfl (by decide) ?_
  refine E_iconst (x := 0) rfl (by decide) ?_
  exact E_iret rfl rfl
theorem c94_X3_isOfOtherSort : Ev ab_Z0 2 34 [.ref 55, .ref 61] w0 (some (.int 0), w0) := by
  refine Ef.in (md := mX3_isOfOtherSort) (L := [some (.ref 55), some (.ref 61)]) rfl (Nat.le_of_ble_eq_true rfl) rfl ?_
  refine E_aload_n rfl rfl ?_
  refine E_callV (v := some (.int 1)) (As := [.ref 55]) (r0 := []) (cs2 := w0) rfl rfl rfl (Nat.le_of_ble_eq_true rfl) rfl rfl c46_X3_isEmpty (by decide) rfl ?_
  refine E_if (t := 29) (b := true) rfl rfl (by decide) ?_
  refine E_iconst (x := 0) rfl (by decide) ?_
  exact E_iret rfl rfl
theorem c95_X3_isOfOtherSort : Ev ab_Z0 2 34 [.ref 55, .ref 63] w0 (some (.int 0), w0) := by
  refine Ef.in (md := mX3_isOfOtherSort) (L := [some (.ref 55), some (.ref 63)]) rfl (Nat.le_of_ble_eq_true rfl) rfl ?_
  refine E_aload_n rfl rfl ?_
  refine E_callV (v := some (.int 1)) (As := [.ref 55]) (r0 := []) (cs2 := w0) rfl rfl rfl (Nat.le_of_ble_eq_true rfl) rfl rfl c46_X3_isEmpty (by decide) rfl ?_
  refine E_if (t := 29) (b := true) rfl rfl (by decide) ?_
  refine E_iconst (x := 0) rfl (by decide) ?_
  exact E_iret rfl rfl
theorem c96_X3_isOfOtherSort : Ev ab_Z0 2 34 [.ref 57, .ref 49] w0 (some (.int 0), w0) := by
  refine Ef.in (md := mX3_isOfOtherSort) (L := [some (.ref 57), some (.ref 49)]) rfl (Nat.le_of_ble_eq_true rfl) rfl ?_
  refine E_aload_n rfl rfl ?_
  refine E_callV (v := some (.int 1)) (As := [.ref 57]) (r0 := []) (cs2 := w0) rfl rfl rfl (Nat.le_of_ble_eq_true rfl) rfl rfl c50_X3_isEmpty (by decide) rfl ?_
  refine E_if (t := 29) (b := true) rfl rfl (by decide) ?_
  refine E_iconst (x := 0) rfl (by decide) ?_
  exact E_iret rfl rfl
theorem c97_X3_isOfOtherSort : Ev ab_Z0 2 34 [.ref 57, .ref 51] w0 (some (.int 0), w0) := by
  refine Ef.in (md := mX3_isOfOtherSort) (L := [some (.ref 57), some (.ref 51)]) rfl (Nat.le_of_ble_eq_true rfl) rfl ?_
  refine E_aload_n rfl rfl ?_
  refine E_callV (v := some (.int 1)) (As := [.ref 57]) (r0 := []) (cs2 := w0) rfl rfl rfl (Nat.le_of_ble_eq_true rfl) rfl rfl c50_X3_isEmpty (by decide) rfl ?_
  refine E_if (t := 29) (b := true) rfl rfl (by decide) ?_
  refine E_iconst (x := 0) rfl (by decide) ?_
  exact E_iret rfl rfl
theorem c98_X3_isOfOtherSort : Ev ab_Z0 2 34 [.ref 57, .ref 53] w0 (some (.int 0), w0) := by
  refine Ef.in (md := mX3_isOfOtherSort) (L := [some (.ref 57), some (.ref 53)]) rfl (Nat.le_of_ble_eq_true rfl) rfl ?_
  refine E_aload_n rfl rfl ?_
  refine E_callV (v := some (.int 1)) (As := [.ref 57]) (r0 := []) (cs2 := w0) rfl rfl rfl (Nat.le_of_ble_eq_true rfl) rfl rfl c50_X3_isEmpty (by decide) rfl ?_
  refine E_if (t := 29) (b := true) rfl rfl (by decide) ?_
  refine E_iconst (x := 0) rfl (by decide) ?_
  exact E_iret rfl rfl
theorem c99_X3_isOfOtherSort : Ev ab_Z0 2 34 [.ref 57, .ref 55] w0 (some (.int 0), w0) := by
  refine Ef.in (md := mX3_isOfOtherSort) (L := [some (.ref 57), some (.ref 55)]) rfl (Nat.le_of_ble_eq_true rfl) rfl ?_
  refine E_aload_n rfl rfl ?_
  refine E_callV (v := some (.int 1)) (As := [.ref 57]) (r0 := []) (cs2 := w0) rfl rfl rfl (Nat.le_of_ble_eq_true rfl) rfl rfl c50_X3_isEmpty (by decide) rfl ?_
  refine E_if (t := 29) (b := true) rfl rfl (by decide) ?_
  refine E_iconst (x := 0) rfl (by decide) ?_
  exact E_iret rfl rfl
theorem c100_X3_isOfOtherSort : Ev ab_Z0 2 34 [.ref 57, .ref 57] w0 (some (.int 0), w0) := by
  refine Ef.in (md := mX3_isOfOtherSort) (L := [some (.ref 57), some (.ref 57)]) rfl (Nat.le_of_ble_eq_true rfl) rfl ?_
  refine E_aload_n rfl rfl ?_
  refine E_callV (v := some (.int 1)) (As := [.ref 57]) (r0 := []) (cs2 := w0) rfl rfl rfl (Nat.le_of_ble_eq_true rfl) rfl rfl c50_X3_isEmpty (by decide) rfl ?_
  refine E_if (t := 29) (b := true) rfl rfl (by decide) ?_
  refine E_iconst (x := 0) rfl (by decide) ?_
  exact E_iret rfl rfl
theorem c101_X3_isOfOtherSort : Ev ab_Z0 2 34 [.ref 57, .ref 59] w0 (some (.int 0), w0) := by
  refine Ef.in (md := mX3_isOfOtherSort) (L := [some (.ref 57), some (.ref 59)]) rfl (Nat.le_of_ble_eq_true rfl) rfl ?_
  refine E_aload_n rfl rfl ?_
  refine E_callV (v := some (.int 1)) (As := [.ref 57]) (r0 := []) (cs2 := w0) rfl rfl rfl (Nat.le_of_ble_eq_true rfl) rfl rfl c50_X3_isEmpty (by decide) rfl ?_
  refine E_if (t := 29) (b := true) rfl rfl (by decide) ?_
  refine E_iconst (x := 0) rfl (by decide) ?_
  exact E_iret rfl rfl
theorem c102_X3_isOfOtherSort : Ev ab_Z0 2 34 [.ref 57, .ref 61] w0 (some (.int 0), w0) := by
  refine Ef.in (md := mX3_isOfOtherSort) (L := [some (.ref 57), some (.ref 61)]) rfl (Nat.le_of_ble_eq_true rfl) rfl ?_
  refine E_aload_n rfl rfl ?_
  refine E_callV (v := some (.int 1)) (As := [.ref 57]) (r0 := []) (cs2 := w0) rfl rfl rfl (Nat.le_of_ble_eq_true rfl) rfl rfl c50_X3_isEmpty (by decide) rfl ?_
  refine E_if (t := 29) (b := true) rfl rfl (by decide) ?_
  refine E_iconst (x := 0) rfl (by decide) ?_
  exact E_iret rfl rfl
theorem c103_X3_isOfOtherSort : Ev ab_Z0 2 34 [.ref 57, .ref 63] w0 (some (.int 0), w0) := by
  refine Ef.in (md := mX3_isOfOtherSort) (L := [some (.ref 57), some (.ref 63)]) rfl (Nat.le_of_ble_eq_true rfl) rfl ?_
  refine E_aload_n rfl rfl ?_
  refine E_callV (v := some (.int 1)) (As := [.ref 57]) (r0 := []) (cs2 := w0) rfl rfl rfl (Nat.le_of_ble_eq_true rfl) rfl rfl c50_X3_isEmpty (by decide) rfl ?_
  refine E_if (t := 29) (b := true) rfl rfl (by decide) ?_
  refine E_iconst (x := 0) rfl (by decide) ?_
  exact E_iret rfl rfl
theorem c104_X3_isOfOtherSort : Ev ab_Z0 2 34 [.ref 59, .ref 49] w0 (some (.int 0), w0) := by
  refine Ef.in (md := mX3_isOfOtherSort) (L := [some (.ref 59), some (.ref 49)]) rfl (Nat.le_of_ble_eq_true rfl) rfl ?_
  refine E_aload_n rfl rfl ?_
  refine E_callV (v := some (.int 1)) (As := [.ref 59]) (r0 := []) (cs2 := w0) rfl rfl rfl (Nat.le_of_ble_eq_true rfl) rfl rfl c54_X3_isEmpty (by decide) rfl ?_
  refine E_if (t := 29) (b := true) rfl rfl (by decide) ?_
  refine E_iconst (x := 0) rfl (by decide) ?_
  exact E_iret rfl rfl
theorem c105_X3_isOfOtherSort : Ev ab_Z0 2 34 [.ref 59, .ref 51] w0 (some (.int 0), w0) := by
  refine Ef.in (md := mX3_isOfOtherSort) (L := [some (.ref 59), some (.ref 51)]) rfl (Nat.le_of_ble_eq_true rfl) rfl ?_
  refine E_aload_n rfl rfl ?_
  refine E_callV (v := some (.int 1)) (As := [.ref 59]) (r0 := []) (cs2 := w0) rfl rfl rfl (Nat.le_of_ble_eq_true rfl) rfl rfl c54_X3_isEmpty (by decide) rfl ?_
  refine E_if (t := 29) (b := true) rfl rfl (by decide) ?_
  refine E_iconst (x := 0) rfl (by decide) ?_
  exact E_iret rfl rfl
theorem c106_X3_isOfOtherSort : Ev ab_Z0 2 34 [.ref 59, .ref 53] w0 (some (.int 0), w0) := by
  refine Ef.in (md := mX3_isOfOtherSort) (L := [some (.ref 59), some (.ref 53)]) rfl (Nat.le_of_ble_eq_true rfl) rfl ?_
  refine E_aload_n rfl rfl ?_
  refine E_callV (v := some (.int 1)) (As := [.ref 59]) (r0 := []) (cs2 := w0) rfl rfl rfl (Nat.le_of_ble_eq_true rfl) rfl rfl c54_X3_isEmpty (by decide) rfl ?_
  refine E_if (t := 29) (b := true) rfl rfl (by decide) ?_
  refine E_iconst (x := 0) rfl (by decide) ?_
  exact E_iret rfl rfl
theorem c107_X3_isOfOtherSort : Ev ab_Z0 2 34 [.ref 59, .ref 55] w0 (some (.int 0), w0) := by
  refine Ef.in (md := mX3_isOfOtherSort) (L := [some (.ref 59), some (.ref 55)]) rfl (Nat.le_of_ble_eq_true rfl) rfl ?_
  refine E_aload_n rfl rfl ?_
  refine E_callV (v := some (.int 1)) (As := [.ref 59]) (r0 := []) (cs2 := w0) rfl rfl rfl (Nat.le_of_ble_eq_true rfl) rfl rfl c54_X3_isEmpty (by decide) rfl ?_
  refine E_if (t := 29) (b := true) rfl rfl (by decide) ?_
  refine E_iconst (x := 0) rfl (by decide) ?_
  exact E_iret rfl rfl
theorem c108_X3_isOfOtherSort : Ev ab_Z0 2 34 [.ref 59, .ref 57] w0 (some (.int 0), w0) := by
  refine Ef.in (md := mX3_isOfOtherSort) (L := [some (.ref 59), some (.ref 57)]) rfl (Nat.le_of_ble_eq_true rfl) rfl ?_
  refine E_aload_n rfl rfl ?_
  refine E_callV (v := some (.int 1)) (As := [.ref 59]) (r0 := []) (cs2 := w0) rfl rfl rfl (Nat.le_of_ble_eq_true rfl) rfl rfl c54_X3_isEmpty (by decide) rfl ?_
  refine E_if (t := 29) (b := true) rfl rfl (by decide) ?_
  refine E_iconst (x := 0) rfl (by decide) ?_
  exact E_iret rfl rfl
theorem c109_X3_isOfOtherSort : Ev ab_Z0 2 34 [.ref 59, .ref 59] w0 (some (.int 0), w0) := by
  refine Ef.in (md := mX3_isOfOtherSort) (L := [some (.ref 59), some (.ref 59)]) rfl (Nat.le_of_ble_eq_true rfl) rfl ?_
  refine E_aload_n rfl rfl ?_
  refine E_callV (v := some (.int 1)) (As := [.ref 59]) (r0 := []) (cs2 := w0) rfl rfl rfl (Nat.le_of_ble_eq_true rfl) rfl rfl c54_X3_isEmpty (by decide) rfl ?_
  refine E_if (t := 29) (b := true) rfl rfl (by decide) ?_
  refine E_iconst (x := 0) rfl (by decide) ?_
  exact E_iret rfl rfl
theorem c110_X3_isOfOtherSort : Ev ab_Z0 2 34 [.ref 59, .ref 61] w0 (some (.int 0), w0) := by
  refine Ef.in (md := mX3_isOfOtherSort) (L := [some (.ref 59), some (.ref 61)]) rfl (Nat.le_of_ble_eq_true rfl) rfl ?_
  refine E_aload_n rfl rfl ?_
  refine E_callV (v := some (.int 1)) (As := [.ref 59]) (r0 := []) (cs2 := w0) rfl rfl rfl (Nat.le_of_ble_eq_true rfl) rfl rfl c54_X3_isEmpty (by decide) rfl ?_
  refine E_if (t := 29) (b := true) rfl rfl (by decide) ?_
  refine E_iconst (x := 0) rfl (by decide) ?_
  exact E_iret rfl rfl
theorem c111_X3_isOfOtherSort : Ev ab_Z0 2 34 [.ref 59, .ref 63] w0 (some (.int 0), w0) := by
  refine Ef.in (md := mX3_isOfOtherSort) (L := [some (.ref 59), some (.ref 63)]) rfl (Nat.le_of_ble_eq_true rfl) rfl ?_
  refine E_aload_n rfl rfl ?_
  refine E_callV (v := some (.int 1)) (As := [.ref 59]) (r0 := []) (cs2 := w0) rfl rfl rfl (Nat.le_of_ble_eq_true rfl) rfl rfl c54_X3_isEmpty (by decide) rfl ?_
  refine E_if (t := 29) (b := true) rfl rfl (by decide) ?_
  refine E_iconst (x := 0) rfl (by decide) ?_
  exact E_iret rfl rfl
theorem c112_X3_isOfOtherSort : Ev ab_Z0 2 34 [.ref 61, .ref 49] w0 (some (.int 0), w0) := by
  refine Ef.in (md := mX3_isOfOtherSort) (L := [some (.ref 61), some (.ref 49)]) rfl (Nat.le_of_ble_eq_true rfl) rfl ?_
  refine E_aload_n rfl rfl ?_
  refine E_callV (v := some (.int 1)) (As := [.ref 61]) (r0 := []) (cs2 := w0) rfl rfl rfl (Nat.le_of_ble_eq_true rfl) rfl rfl c58_X3_isEmpty (by decide) rfl ?_
  refine E_if (t := 29) (b := true) rfl rfl (by decide) ?_
  refine E_iconst (x := 0) rfl (by decide) ?_
  exact E_iret rfl rfl
theorem c113_X3_isOfOtherSort : Ev ab_Z0 2 34 [.ref 61, .ref 51] w0 (some (.int 0), w0) := by
  refine Ef.in (md := mX3_isOfOtherSort) (L := [some (.ref 61), some (.ref 51)]) rfl (Nat.le_of_ble_eq_true rfl) rfl ?_
  refine E_aload_n rfl rfl ?_
  refine E_callV (v := some (.int 1)) (As := [.ref 61]) (r0 := []) (cs2 := w0) rfl rfl rfl (Nat.le_of_ble_eq_true rfl) rfl rfl c58_X3_isEmpty (by decide) rfl ?_
  refine E_if (t := 29) (b := true) rfl rfl (by decide) ?_
  refine E_iconst (x := 0) rfl (by decide) ?_
  exact E_iret rfl rfl
theorem c114_X3_isOfOtherSort : Ev ab_Z0 2 34 [.ref 61, .ref 53] w0 (some (.int 0), w0) := by
  refine Ef.in (md := mX3_isOfOtherSort) (L := [some (.ref 61), some (.ref 53)]) rfl (Nat.le_of_ble_eq_true rfl) rfl ?_
  refine E_aload_n rfl rfl ?_
  refine E_callV (v := some (.int 1)) (As := [.ref 61]) (r0 := []) (cs2 := w0) rfl rfl rfl (Nat.le_of_ble_eq_true rfl) rfl rfl c58_X3_isEmpty (by decide) rfl ?_
  refine E_if (t := 29) (b := true) rfl rfl (by decide) ?_
  refine E_iconst (x := 0) rfl (by decide) ?_
  exact E_iret rfl rfl
theorem c115_X3_isOfOtherSort : Ev ab_Z0 2 34 [.ref 61, .ref 55] w0 (some (.int 0), w0) := by
  refine Ef.in (md := mX3_isOfOtherSort) (L := [some (.ref 61), some (.ref 55)]) rfl (Nat.le_of_ble_eq_true rfl) rfl ?_
  refine E_aload_n rfl rfl ?_
  refine E_callV (v := some (.int 1)) (As := [.ref 61]) (r0 := []) (cs2 := w0) rfl rfl rfl (Nat.le_of_ble_eq_true rfl) rfl rfl c58_X3_isEmpty (by decide) rfl ?_
  refine E_if (t := 29) (b := true) rfl rfl (by decide) ?_
  refine E_iconst (x := 0) rfl (by decide) ?_
  exact E_iret rfl rfl
theorem c116_X3_isOfOtherSort : Ev ab_Z0 2 34 [.ref 61, .ref 57] w0 (some (.int 0), w0) := by
  refine Ef.in (md := mX3_isOfOtherSort) (L := [some (.ref 61), some (.ref 57)]) rfl (Nat.le_of_ble_eq_true rfl) rfl ?_
  refine E_aload_n rfl rfl ?_
  refine E_callV (v := some (.int 1)) (As := [.ref 61]) (r0 := []) (cs2 := w0) rfl rfl rfl (Nat.le_of_ble_eq_true rfl) rfl rfl c58_X3_isEmpty (by decide) rfl ?_
  refine E_if (t := 29) (b := true) rfl rfl (by decide) ?_
  refine E_iconst (x := 0) rfl (by decide) ?_
  exact E_iret rfl rfl
theorem c117_X3_isOfOtherSort : Ev ab_Z0 2 34 [.ref 61, .ref 59] w0 (some (.int 0), w0) := by
  refine Ef.in (md := mX3_isOfOtherSort) (L := [some (.ref 61), some (.ref 59)]) rfl (Nat.le_of_ble_eq_true rfl) rfl ?_
  refine E_aload_n rfl rfl ?_
  refine E_callV (v := some (.int 1)) (As := [.ref 61]) (r0 := []) (cs2 := w0) rfl rfl rfl (Nat.le_of_ble_eq_true rfl) rfl rfl c58_X3_isEmpty (by decide) rfl ?_
  refine E_if (t := 29) (b := true) rfl rfl (by decide) ?_
  refine E_iconst (x := 0) rfl (by decide) ?_
  exact E_iret rfl rfl
theorem c118_X3_isOfOtherSort : Ev ab_Z0 2 34 [.ref 61, .ref 61] w0 (some (.int 0), w0) := by
  refine Ef.in (md := mX3_isOfOtherSort) (L := [some (.ref 61), some (.ref 61)]) rfl (Nat.le_of_ble_eq_true rfl) rfl ?_
  refine E_aload_n rfl rfl ?_
  refine E_callV (v := some (.int 1)) (As := [.ref 61]) (r0 := []) (cs2 := w0) rfl rfl rfl (Nat.le_of_ble_eq_true rfl) rfl rfl c58_X3_isEmpty (by decide) rfl ?_
  refine E_if (t := 29) (b := true) rfl rfl (by decide) ?_
  refine E_iconst (x := 0) rfl (by decide) ?_
  exact E_iret rfl rfl
theorem c119_X3_isOfOtherSort : Ev ab_Z0 2 34 [.ref 61, .ref 63] w0 (some (.int 0), w0) := by
  refine Ef.in (md := mX3_isOfOtherSort) (L := [some (.ref 61), some (.ref 63)]) rfl (Nat.le_of_ble_eq_true rfl) rfl ?_
  refine E_aload_n rfl rfl ?_
  refine E_callV (v := some (.int 1)) (As := [.ref 61]) (r0 := []) (cs2 := w0) rfl rfl rfl (Nat.le_of_ble_eq_true rfl) rfl rfl c58_X3_isEmpty (by decide) rfl ?_
  refine E_if (t := 29) (b := true) rfl rfl (by decide) ?_
  refine E_iconst (x := 0) rfl (by decide) ?_
  exact E_iret rfl rfl
theorem c120_X3_isOfOtherSort : Ev ab_Z0 2 34 [.ref 63, .ref 49] w0 (some (.int 0), w0) := by
  refine Ef.in (md := mX3_isOfOtherSort) (L := [some (.ref 63), some (.ref 49)]) rfl (Nat.le_of_ble_eq_true rfl) rfl ?_
  refine E_aload_n rfl rfl ?_
  refine E_callV (v := some (.int 1)) (As := [.ref 63]) (r0 := []) (cs2 := w0) rfl rfl rfl (Nat.le_of_ble_eq_true rfl) rfl rfl c62_X3_isEmpty (by decide) rfl ?_
  refine E_if (t := 29) (b := true) rfl rfl (by decide) ?_
  refine E_iconst (x := 0) rfl (by decide) ?_
  exact E_iret rfl rfl
theorem c121_X3_isOfOtherSort : Ev ab_Z0 2 34 [.ref 63, .ref 51] w0 (some (.int 0), w0) := by
  refine Ef.in (md := mX3_isOfOtherSort) (L := [some (.ref 63), some (.ref 51)]) rfl (Nat.le_of_ble_eq_true rfl) rfl ?_
  refine E_aload_n rfl rfl ?_
  refine E_callV (v := some (.int 1)) (As := [.ref 63]) (r0 := []) (cs2 := w0) rfl rfl rfl (Nat.le_of_ble_eq_true rfl) rfl rfl c62_X3_isEmpty (by decide) rfl ?_
  refine E_if (t := 29) (b := true) rfl rfl (by decide) ?_
  refine E_iconst (x := 0) rfl (by decide) ?_
  exact E_iret rfl rfl
theorem c122_X3_isOfOtherSort : Ev ab_Z0 2 34 [.ref 63, .ref 53] w0 (some (.int 0), w0) := by
  refine Ef.in (md := mX3_isOfOtherSort) (L := [some (.ref 63), some (.ref 53)]) rfl (Nat.le_of_ble_eq_true rfl) rfl ?_
  refine E_aload_n rfl rfl ?_
  refine E_callV (v := some (.int 1)) (As := [.ref 63]) (r0 := []) (cs2 := w0) rfl rfl rfl (Nat.le_of_ble_eq_true rfl) rfl rfl c62_X3_isEmpty (by decide) rfl ?_
  refine E_if (t := 29) (b := true) rfl rfl (by decide) ?_
  refine E_iconst (x := 0) rfl (by decide) ?_
  exact E_iret rfl rfl
theorem c123_X3_isOfOtherSort : Ev ab_Z0 2 34 [.ref 63, .ref 55] w0 (some (.int 0), w0) := by
  refine Ef.in (md := mX3_isOfOtherSort) (L := [some (.ref 63), some (.ref 55)]) rfl (Nat.le_of_ble_eq_true rfl) rfl ?_
  refine E_aload_n rfl rfl ?_
  refine E_callV (v := some (.int 1)) (As := [.ref 63]) (r0 := []) (cs2 := w0) rfl rfl rfl (Nat.le_of_ble_eq_true rfl) rfl rfl c62_X3_isEmpty (by decide) rfl ?_
  refine E_if (t := 29) (b := true) rfl rfl (by decide) ?_
  refine E_iconst (x := 0) rfl (by decide) ?_
  exact E_iret rfl rfl
theorem c124_X3_isOfOtherSort : Ev ab_Z0 2 34 [.ref 63, .ref 57] w0 (some (.int 0), w0) := by
  refine Ef.in (md := mX3_isOfOtherSort) (L := [some (.ref 63), some (.ref 57)]) rfl (Nat.le_of_ble_eq_true rfl) rfl ?_
  refine E_aload_n rfl rfl ?_
  refine E_callV (v := some (.int 1)) (As := [.ref 63]) (r0 := []) (cs2 := w0) rfl rfl rfl (Nat.le_of_ble_eq_true rfl) rfl rfl c62_X3_isEmpty (by decide) rfl ?_
  refine E_if (t := 29) (b := true) rfl rfl (by decide) ?_
  refine E_iconst (x := 0) rfl (by decide) ?_
  exact E_iret rfl rfl
theorem c125_X3_isOfOtherSort : Ev ab_Z0 2 34 [.ref 63, .ref 59] w0 (some (.int 0), w0) := by
  refine Ef.in (md := mX3_isOfOtherSort) (L := [some (.ref 63), some (.ref 59)]) rfl (Nat.le_of_ble_eq_true rfl) rfl ?_
  refine E_aload_n rfl rfl ?_
  refine E_callV (v := some (.int 1)) (As := [.ref 63]) (r0 := []) (cs2 := w0) rfl rfl rfl (Nat.le_of_ble_eq_true rfl) rfl rfl c62_X3_isEmpty (by decide) rfl ?_
  refine E_if (t := 29) (b := true) rfl rfl (by decide) ?_
  refine E_iconst (x := 0) rfl (by decide) ?_
  exact E_iret rfl rfl
theorem c126_X3_isOfOtherSort : Ev ab_Z0 2 34 [.ref 63, .ref 61] w0 (some (.int 0), w0) := by
  refine Ef.in (md := mX3_isOfOtherSort) (L := [some (.ref 63), some (.ref 61)]) rfl (Nat.le_of_ble_eq_true rfl) rfl ?_
  refine E_aload_n rfl rfl ?_
  refine E_callV (v := some (.int 1)) (As := [.ref 63]) (r0 := []) (cs2 := w0) rfl rfl rfl (Nat.le_of_ble_eq_true rfl) rfl rfl c62_X3_isEmpty (by decide) rfl ?_
  refine E_if (t := 29) (b := true) rfl rfl (by decide) ?_
  refine E_iconst (x := 0) rfl (by decide) ?_
  exact E_iret rfl rfl
theorem c127_X3_isOfOtherSort : Ev ab_Z0 2 34 [.ref 63, .ref 63] w0 (some (.int 0), w0) := by
  refine Ef.in (md := mX3_isOfOtherSort) (L := [some (.ref 63), some (.ref 63)]) rfl (Nat.le_of_ble_eq_true rfl) rfl ?_
  refine E_aload_n rfl rfl ?_
  refine E_callV (v := some (.int 1)) (As := [.ref 63]) (r0 := []) (cs2 := w0) rfl rfl rfl (Nat.le_of_ble_eq_true rfl) rfl rfl c62_X3_isEmpty (by decide) rfl ?_
  refine E_if (t := 29) (b := true) rfl rfl (by decide) ?_
  refine E_iconst (x := 0) rfl (by decide) ?_
  exact E_iret rfl rfl
theorem f_copy_1 (a1 a2 a3 a4 a5 : Int32) (ha1h : a1.toInt ≤ -1) : p1_P 3 78 2 137 [.ref 0, .int a1, .int a2, .int a3, .int a4, .int a5] [.ref 65, .int a1, .int a2, .int a3, .int a4, .int a5] :=
  ⟨(-1), (w0.set 48 (.inl [0, 1, 0, 0, 0, 0, 0, 0])), ((w0.set 48 (.inl [0, 1, 0, 0, 0, 0, 0, 0])).set 66 (.inl [0, 1, 0, 0, 0, 0, 0, 0])), by
    refine Ef.in (md := mX5_copy) (L := [some (.ref 0), some (.int a1), some (.int a2), some (.int a3), some (.int a4), some (.int a5), none, none]) rfl (Nat.le_of_ble_eq_true rfl) rfl ?_
    refine E_iload_n rfl rfl ?_
    have e2 : Ev ab_Z0 1 117 [.int a1] w0 (some (.int 0), w0) := by
      refine Ef.in (md := mX5_isShelf) (L := [some (.int a1)]) rfl (Nat.le_of_ble_eq_true rfl) rfl ?_
      refine E_iload_n rfl rfl ?_
      refine E_if (t := 14) (b := true) rfl rfl ((cn_lt (rfl : (a1).toInt = (a1).toInt) (by decide : (0 : Int32).toInt = 0)).trans (decide_eq_true (by omega))) ?_
      refine E_iconst (x := 0) rfl (by decide) ?_
      exact E_iret rfl rfl
    refine E_callS (v := some (.int 0)) (As := [.int a1]) (r0 := []) (cs2 := w0) rfl rfl rfl (Nat.le_of_ble_eq_true rfl) rfl e2 (by decide) rfl ?_
    refine E_if (t := 14) (b := true) rfl rfl (by decide) ?_
    refine E_aload_n rfl rfl ?_
    refine E_iconst (x := 1) rfl (by decide) ?_
    refine E_callV (v := some (.int (-1))) (As := [.ref 0, .int 1]) (r0 := []) (cs2 := (w0.set 48 (.inl [0, 1, 0, 0, 0, 0, 0, 0]))) rfl rfl rfl (Nat.le_of_ble_eq_true rfl) rfl rfl c1_X5_refuse (by decide) (by simp only [List.length_set]) ?_
    exact E_iret rfl rfl, by
    refine Ef.in (md := mX6_copy) (L := [some (.ref 65), some (.int a1), some (.int a2), some (.int a3), some (.int a4), some (.int a5), none]) rfl (Nat.le_of_ble_eq_true rfl) rfl ?_
    refine E_aload_n rfl rfl ?_
    refine E_iload_n rfl rfl ?_
    have e3 : Ev ab_Z0 1 131 [.ref 65, .int a1] (w0.set 48 (.inl [0, 1, 0, 0, 0, 0, 0, 0])) (some (.int 0), (w0.set 48 (.inl [0, 1, 0, 0, 0, 0, 0, 0]))) := by
      refine Ef.in (md := mX6_isShelf) (L := [some (.ref 65), some (.int a1)]) rfl (Nat.le_of_ble_eq_true rfl) rfl ?_
      refine E_iload_n rfl rfl ?_
      refine E_if (t := 14) (b := true) rfl rfl ((cn_lt (rfl : (a1).toInt = (a1).toInt) (by decide : (0 : Int32).toInt = 0)).trans (decide_eq_true (by omega))) ?_
      refine E_iconst (x := 0) rfl (by decide) ?_
      exact E_iret rfl rfl
    refine E_callV (v := some (.int 0)) (As := [.ref 65, .int a1]) (r0 := []) (cs2 := (w0.set 48 (.inl [0, 1, 0, 0, 0, 0, 0, 0]))) rfl rfl rfl (Nat.le_of_ble_eq_true rfl) rfl rfl e3 (by decide) rfl ?_
    refine E_if (t := 16) (b := true) rfl rfl (by decide) ?_
    refine E_aload_n rfl rfl ?_
    refine E_iconst (x := (-1)) rfl (by decide) ?_
    refine E_callV (v := some (.int (-1))) (As := [.ref 65, .int (-1)]) (r0 := []) (cs2 := ((w0.set 48 (.inl [0, 1, 0, 0, 0, 0, 0, 0])).set 66 (.inl [0, 1, 0, 0, 0, 0, 0, 0]))) rfl rfl rfl (Nat.le_of_ble_eq_true rfl) rfl rfl c3_X6_no (by decide) (by simp only [List.length_set]) ?_
    exact E_iret rfl rfl, (by simp only [List.length_set]; rfl), (by simp only [List.length_set]; rfl), ((ab_szs rfl).trans ((ab_szs rfl).trans rfl)), fun _ => rfl⟩
theorem f_copy_2 (a1 a2 a3 a4 a5 : Int32) (ha1l : (0 : Int) ≤ a1.toInt) (ha1h : a1.toInt ≤ 7) (ha2h : a2.toInt ≤ -1) : p1_P 3 78 2 137 [.ref 0, .int a1, .int a2, .int a3, .int a4, .int a5] [.ref 65, .int a1, .int a2, .int a3, .int a4, .int a5] :=
  ⟨(-1), (w0.set 48 (.inl [0, 1, 0, 0, 0, 0, 0, 0])), ((w0.set 48 (.inl [0, 1, 0, 0, 0, 0, 0, 0])).set 66 (.inl [0, 1, 0, 0, 0, 0, 0, 0])), by
    refine Ef.in (md := mX5_copy) (L := [some (.ref 0), some (.int a1), some (.int a2), some (.int a3), some (.int a4), some (.int a5), none, none]) rfl (Nat.le_of_ble_eq_true rfl) rfl ?_
    refine E_iload_n rfl rfl ?_
    have e2 : Ev ab_Z0 1 117 [.int a1] w0 (some (.int 1), w0) := by
      refine Ef.in (md := mX5_isShelf) (L := [some (.int a1)]) rfl (Nat.le_of_ble_eq_true rfl) rfl ?_
      refine E_iload_n rfl rfl ?_
      refine E_if (t := 14) (b := false) rfl rfl ((cn_lt (rfl : (a1).toInt = (a1).toInt) (by decide : (0 : Int32).toInt = 0)).trans (decide_eq_false (by omega))) ?_
      refine E_iload_n rfl rfl ?_
      refine E_bipush (x := 8) rfl (by decide) ?_
      refine E_ic (t := 14) (b := false) rfl rfl ((cn_ge (rfl : (a1).toInt = (a1).toInt) (by decide : (8 : Int32).toInt = 8)).trans (decide_eq_false (by omega))) ?_
      refine E_iconst (x := 1) rfl (by decide) ?_
      refine E_goto (t := 15) rfl rfl ?_
      exact E_iret rfl rfl
    refine E_callS (v := some (.int 1)) (As := [.int a1]) (r0 := []) (cs2 := w0) rfl rfl rfl (Nat.le_of_ble_eq_true rfl) rfl e2 (by decide) rfl ?_
    refine E_if (t := 14) (b := false) rfl rfl (by decide) ?_
    refine E_iload_n rfl rfl ?_
    have e15 : Ev ab_Z0 1 117 [.int a2] w0 (some (.int 0), w0) := by
      refine Ef.in (md := mX5_isShelf) (L := [some (.int a2)]) rfl (Nat.le_of_ble_eq_true rfl) rfl ?_
      refine E_iload_n rfl rfl ?_
      refine E_if (t := 14) (b := true) rfl rfl ((cn_lt (rfl : (a2).toInt = (a2).toInt) (by decide : (0 : Int32).toInt = 0)).trans (decide_eq_true (by omega))) ?_
      refine E_iconst (x := 0) rfl (by decide) ?_
      exact E_iret rfl rfl
    refine E_callS (v := some (.int 0)) (As := [.int a2]) (r0 := []) (cs2 := w0) rfl rfl rfl (Nat.le_of_ble_eq_true rfl) rfl e15 (by decide) rfl ?_
    refine E_if (t := 20) (b := false) rfl rfl (by decide) ?_
    refine E_aload_n rfl rfl ?_
    refine E_iconst (x := 1) rfl (by decide) ?_
    refine E_callV (v := some (.int (-1))) (As := [.ref 0, .int 1]) (r0 := []) (cs2 := (w0.set 48 (.inl [0, 1, 0, 0, 0, 0, 0, 0]))) rfl rfl rfl (Nat.le_of_ble_eq_true rfl) rfl rfl c1_X5_refuse (by decide) (by simp only [List.length_set]) ?_
    exact E_iret rfl rfl, by
    refine Ef.in (md := mX6_copy) (L := [some (.ref 65), some (.int a1), some (.int a2), some (.int a3), some (.int a4), some (.int a5), none]) rfl (Nat.le_of_ble_eq_true rfl) rfl ?_
    refine E_aload_n rfl rfl ?_
    refine E_iload_n rfl rfl ?_
    have e3 : Ev ab_Z0 1 131 [.ref 65, .int a1] (w0.set 48 (.inl [0, 1, 0, 0, 0, 0, 0, 0])) (some (.int 1), (w0.set 48 (.inl [0, 1, 0, 0, 0, 0, 0, 0]))) := by
      refine Ef.in (md := mX6_isShelf) (L := [some (.ref 65), some (.int a1)]) rfl (Nat.le_of_ble_eq_true rfl) rfl ?_
      refine E_iload_n rfl rfl ?_
      refine E_if (t := 14) (b := false) rfl rfl ((cn_lt (rfl : (a1).toInt = (a1).toInt) (by decide : (0 : Int32).toInt = 0)).trans (decide_eq_false (by omega))) ?_
      refine E_iload_n rfl rfl ?_
      refine E_bipush (x := 8) rfl (by decide) ?_
      refine E_ic (t := 14) (b := false) rfl rfl ((cn_ge (rfl : (a1).toInt = (a1).toInt) (by decide : (8 : Int32).toInt = 8)).trans (decide_eq_false (by omega))) ?_
      refine E_iconst (x := 1) rfl (by decide) ?_
      refine E_goto (t := 15) rfl rfl ?_
      exact E_iret rfl rfl
    refine E_callV (v := some (.int 1)) (As := [.ref 65, .int a1]) (r0 := []) (cs2 := (w0.set 48 (.inl [0, 1, 0, 0, 0, 0, 0, 0]))) rfl rfl rfl (Nat.le_of_ble_eq_true rfl) rfl rfl e3 (by decide) rfl ?_
    refine E_if (t := 16) (b := false) rfl rfl (by decide) ?_
    refine E_aload_n rfl rfl ?_
    refine E_iload_n rfl rfl ?_
    have e17 : Ev ab_Z0 1 131 [.ref 65, .int a2] (w0.set 48 (.inl [0, 1, 0, 0, 0, 0, 0, 0])) (some (.int 0), (w0.set 48 (.inl [0, 1, 0, 0, 0, 0, 0, 0]))) := by
      refine Ef.in (md := mX6_isShelf) (L := [some (.ref 65), some (.int a2)]) rfl (Nat.le_of_ble_eq_true rfl) rfl ?_
      refine E_iload_n rfl rfl ?_
      refine E_if (t := 14) (b := true) rfl rfl ((cn_lt (rfl : (a2).toInt = (a2).toInt) (by decide : (0 : Int32).toInt = 0)).trans (decide_eq_true (by omega))) ?_
      refine E_iconst (x := 0) rfl (by decide) ?_
      exact E_iret rfl rfl
    refine E_callV (v := some (.int 0)) (As := [.ref 65, .int a2]) (r0 := []) (cs2 := (w0.set 48 (.inl [0, 1, 0, 0, 0, 0, 0, 0]))) rfl rfl rfl (Nat.le_of_ble_eq_true rfl) rfl rfl e17 (by decide) rfl ?_
    refine E_if (t := 22) (b := false) rfl rfl (by decide) ?_
    refine E_aload_n rfl rfl ?_
    refine E_iconst (x := (-1)) rfl (by decide) ?_
    refine E_callV (v := some (.int (-1))) (As := [.ref 65, .int (-1)]) (r0 := []) (cs2 := ((w0.set 48 (.inl [0, 1, 0, 0, 0, 0, 0, 0])).set 66 (.inl [0, 1, 0, 0, 0, 0, 0, 0]))) rfl rfl rfl (Nat.le_of_ble_eq_true rfl) rfl rfl c3_X6_no (by decide) (by simp only [List.length_set]) ?_
    exact E_iret rfl rfl, (by simp only [List.length_set]; rfl), (by simp only [List.length_set]; rfl), ((ab_szs rfl).trans ((ab_szs rfl).trans rfl)), fun _ => rfl⟩
theorem f_copy_3 (a3 a4 a5 : Int32) : p1_P 3 78 2 137 [.ref 0, .int 0, .int 0, .int a3, .int a4, .int a5] [.ref 65, .int 0, .int 0, .int a3, .int a4, .int a5] :=
  ⟨(-3), (w0.set 48 (.inl [0, 0, 0, 1, 0, 0, 0, 0])), ((w0.set 48 (.inl [0, 0, 0, 1, 0, 0, 0, 0])).set 66 (.inl [0, 0, 0, 1, 0, 0, 0, 0])), by
    refine Ef.in (md := mX5_copy) (L := [some (.ref 0), some (.int 0), some (.int 0), some (.int a3), some (.int a4), some (.int a5), none, none]) rfl (Nat.le_of_ble_eq_true rfl) rfl ?_
    refine E_iload_n rfl rfl ?_
    refine E_callS (v := some (.int 1)) (As := [.int 0]) (r0 := []) (cs2 := w0) rfl rfl rfl (Nat.le_of_ble_eq_true rfl) rfl c10_X5_isShelf (by decide) rfl ?_
    refine E_if (t := 14) (b := false) rfl rfl (by decide) ?_
    refine E_iload_n rfl rfl ?_
    refine E_callS (v := some (.int 1)) (As := [.int 0]) (r0 := []) (cs2 := w0) rfl rfl rfl (Nat.le_of_ble_eq_true rfl) rfl c10_X5_isShelf (by decide) rfl ?_
    refine E_if (t := 20) (b := true) rfl rfl (by decide) ?_
    refine E_aload_n rfl rfl ?_
    refine E_getfield (v := .ref 31) rfl rfl rfl (by decide) rfl ?_
    refine E_iload_n rfl rfl ?_
    refine E_aaload (b := 49) (j := 0) rfl rfl (by decide) (by decide) rfl ?_
    refine E_astore (L2 := [some (.ref 0), some (.int 0), some (.int 0), some (.int a3), some (.int a4), some (.int a5), some (.ref 49), none]) rfl rfl ?_
    refine E_aload_n rfl rfl ?_
    refine E_getfield (v := .ref 31) rfl rfl rfl (by decide) rfl ?_
    refine E_iload_n rfl rfl ?_
    refine E_aaload (b := 49) (j := 0) rfl rfl (by decide) (by decide) rfl ?_
    refine E_astore (L2 := [some (.ref 0), some (.int 0), some (.int 0), some (.int a3), some (.int a4), some (.int a5), some (.ref 49), some (.ref 49)]) rfl rfl ?_
    refine E_aload rfl rfl ?_
    refine E_callV (v := some (.int 0)) (As := [.ref 49]) (r0 := []) (cs2 := w0) rfl rfl rfl (Nat.le_of_ble_eq_true rfl) rfl rfl c30_X3_isOtherThanRow (by decide) rfl ?_
    refine E_if (t := 62) (b := false) rfl rfl (by decide) ?_
    refine E_aload rfl rfl ?_
    refine E_callV (v := some (.int 0)) (As := [.ref 49]) (r0 := []) (cs2 := w0) rfl rfl rfl (Nat.le_of_ble_eq_true rfl) rfl rfl c30_X3_isOtherThanRow (by decide) rfl ?_
    refine E_if (t := 62) (b := false) rfl rfl (by decide) ?_
    refine E_aload rfl rfl ?_
    refine E_aload rfl rfl ?_
    refine E_callV (v := some (.int 0)) (As := [.ref 49, .ref 49]) (r0 := []) (cs2 := w0) rfl rfl rfl (Nat.le_of_ble_eq_true rfl) rfl rfl c64_X3_isOfOtherSort (by decide) rfl ?_
    refine E_if (t := 68) (b := true) rfl rfl (by decide) ?_
    refine E_aload rfl rfl ?_
    refine E_callV (v := some (.int 1)) (As := [.ref 49]) (r0 := []) (cs2 := w0) rfl rfl rfl (Nat.le_of_ble_eq_true rfl) rfl rfl c31_X3_isEmpty (by decide) rfl ?_
    refine E_if (t := 84) (b := true) rfl rfl (by decide) ?_
    refine E_aload_n rfl rfl ?_
    refine E_iconst (x := 3) rfl (by decide) ?_
    refine E_callV (v := some (.int (-3))) (As := [.ref 0, .int 3]) (r0 := []) (cs2 := (w0.set 48 (.inl [0, 0, 0, 1, 0, 0, 0, 0]))) rfl rfl rfl (Nat.le_of_ble_eq_true rfl) rfl rfl c32_X5_refuse (by decide) (by simp only [List.length_set]) ?_
    exact E_iret rfl rfl, by
    refine Ef.in (md := mX6_copy) (L := [some (.ref 65), some (.int 0), some (.int 0), some (.int a3), some (.int a4), some (.int a5), none]) rfl (Nat.le_of_ble_eq_true rfl) rfl ?_
    refine E_aload_n rfl rfl ?_
    refine E_iload_n rfl rfl ?_
    refine E_callV (v := some (.int 1)) (As := [.ref 65, .int 0]) (r0 := []) (cs2 := (w0.set 48 (.inl [0, 0, 0, 1, 0, 0, 0, 0]))) rfl rfl rfl (Nat.le_of_ble_eq_true rfl) rfl rfl c34_X6_isShelf (by decide) rfl ?_
    refine E_if (t := 16) (b := false) rfl rfl (by decide) ?_
    refine E_aload_n rfl rfl ?_
    refine E_iload_n rfl rfl ?_
    refine E_callV (v := some (.int 1)) (As := [.ref 65, .int 0]) (r0 := []) (cs2 := (w0.set 48 (.inl [0, 0, 0, 1, 0, 0, 0, 0]))) rfl rfl rfl (Nat.le_of_ble_eq_true rfl) rfl rfl c34_X6_isShelf (by decide) rfl ?_
    refine E_if (t := 22) (b := true) rfl rfl (by decide) ?_
    refine E_aload_n rfl rfl ?_
    refine E_getfield (v := .ref 76) rfl rfl rfl (by decide) rfl ?_
    refine E_iload_n rfl rfl ?_
    refine E_iaload (x := 0) (j := 0) rfl rfl (by decide) (by decide) rfl ?_
    refine E_iconst (x := 2) rfl (by decide) ?_
    refine E_ic (t := 77) (b := false) rfl rfl (by decide) ?_
    refine E_aload_n rfl rfl ?_
    refine E_getfield (v := .ref 76) rfl rfl rfl (by decide) rfl ?_
    refine E_iload_n rfl rfl ?_
    refine E_iaload (x := 0) (j := 0) rfl rfl (by decide) (by decide) rfl ?_
    refine E_iconst (x := 2) rfl (by decide) ?_
    refine E_ic (t := 77) (b := false) rfl rfl (by decide) ?_
    refine E_aload_n rfl rfl ?_
    refine E_getfield (v := .ref 76) rfl rfl rfl (by decide) rfl ?_
    refine E_iload_n rfl rfl ?_
    refine E_iaload (x := 0) (j := 0) rfl rfl (by decide) (by decide) rfl ?_
    refine E_iconst (x := 1) rfl (by decide) ?_
    refine E_ic (t := 84) (b := true) rfl rfl (by decide) ?_
    refine E_aload_n rfl rfl ?_
    refine E_getfield (v := .ref 76) rfl rfl rfl (by decide) rfl ?_
    refine E_iload_n rfl rfl ?_
    refine E_iaload (x := 0) (j := 0) rfl rfl (by decide) (by decide) rfl ?_
    refine E_if (t := 102) (b := true) rfl rfl (by decide) ?_
    refine E_aload_n rfl rfl ?_
    refine E_bipush (x := (-3)) rfl (by decide) ?_
    refine E_callV (v := some (.int (-3))) (As := [.ref 65, .int (-3)]) (r0 := []) (cs2 := ((w0.set 48 (.inl [0, 0, 0, 1, 0, 0, 0, 0])).set 66 (.inl [0, 0, 0, 1, 0, 0, 0, 0]))) rfl rfl rfl (Nat.le_of_ble_eq_true rfl) rfl rfl c35_X6_no (by decide) (by simp only [List.length_set]) ?_
    exact E_iret rfl rfl, (by simp only [List.length_set]; rfl), (by simp only [List.length_set]; rfl), ((ab_szs rfl).trans ((ab_szs rfl).trans rfl)), fun _ => rfl⟩
theorem f_copy_4 (a3 a4 a5 : Int32) : p1_P 3 78 2 137 [.ref 0, .int 0, .int 1, .int a3, .int a4, .int a5] [.ref 65, .int 0, .int 1, .int a3, .int a4, .int a5] :=
  ⟨(-3), (w0.set 48 (.inl [0, 0, 0, 1, 0, 0, 0, 0])), ((w0.set 48 (.inl [0, 0, 0, 1, 0, 0, 0, 0])).set 66 (.inl [0, 0, 0, 1, 0, 0, 0, 0])), by
    refine Ef.in (md := mX5_copy) (L := [some (.ref 0), some (.int 0), some (.int 1), some (.int a3), some (.int a4), some (.int a5), none, none]) rfl (Nat.le_of_ble_eq_true rfl) rfl ?_
    refine E_iload_n rfl rfl ?_
    refine E_callS (v := some (.int 1)) (As := [.int 0]) (r0 := []) (cs2 := w0) rfl rfl rfl (Nat.le_of_ble_eq_true rfl) rfl c10_X5_isShelf (by decide) rfl ?_
    refine E_if (t := 14) (b := false) rfl rfl (by decide) ?_
    refine E_iload_n rfl rfl ?_
    refine E_callS (v := some (.int 1)) (As := [.int 1]) (r0 := []) (cs2 := w0) rfl rfl rfl (Nat.le_of_ble_eq_true rfl) rfl c12_X5_isShelf (by decide) rfl ?_
    refine E_if (t := 20) (b := true) rfl rfl (by decide) ?_
    refine E_aload_n rfl rfl ?_
    refine E_getfield (v := .ref 31) rfl rfl rfl (by decide) rfl ?_
    refine E_iload_n rfl rfl ?_
    refine E_aaload (b := 49) (j := 0) rfl rfl (by decide) (by decide) rfl ?_
    refine E_astore (L2 := [some (.ref 0), some (.int 0), some (.int 1), some (.int a3), some (.int a4), some (.int a5), some (.ref 49), none]) rfl rfl ?_
    refine E_aload_n rfl rfl ?_
    refine E_getfield (v := .ref 31) rfl rfl rfl (by decide) rfl ?_
    refine E_iload_n rfl rfl ?_
    refine E_aaload (b := 51) (j := 1) rfl rfl (by decide) (by decide) rfl ?_
    refine E_astore (L2 := [some (.ref 0), some (.int 0), some (.int 1), some (.int a3), some (.int a4), some (.int a5), some (.ref 49), some (.ref 51)]) rfl rfl ?_
    refine E_aload rfl rfl ?_
    refine E_callV (v := some (.int 0)) (As := [.ref 49]) (r0 := []) (cs2 := w0) rfl rfl rfl (Nat.le_of_ble_eq_true rfl) rfl rfl c30_X3_isOtherThanRow (by decide) rfl ?_
    refine E_if (t := 62) (b := false) rfl rfl (by decide) ?_
    refine E_aload rfl rfl ?_
    refine E_callV (v := some (.int 0)) (As := [.ref 51]) (r0 := []) (cs2 := w0) rfl rfl rfl (Nat.le_of_ble_eq_true rfl) rfl rfl c37_X3_isOtherThanRow (by decide) rfl ?_
    refine E_if (t := 62) (b := false) rfl rfl (by decide) ?_
    refine E_aload rfl rfl ?_
    refine E_aload rfl rfl ?_
    refine E_callV (v := some (.int 0)) (As := [.ref 49, .ref 51]) (r0 := []) (cs2 := w0) rfl rfl rfl (Nat.le_of_ble_eq_true rfl) rfl rfl c65_X3_isOfOtherSort (by decide) rfl ?_
    refine E_if (t := 68) (b := true) rfl rfl (by decide) ?_
    refine E_aload rfl rfl ?_
    refine E_callV (v := some (.int 1)) (As := [.ref 49]) (r0 := []) (cs2 := w0) rfl rfl rfl (Nat.le_of_ble_eq_true rfl) rfl rfl c31_X3_isEmpty (by decide) rfl ?_
    refine E_if (t := 84) (b := true) rfl rfl (by decide) ?_
    refine E_aload_n rfl rfl ?_
    refine E_iconst (x := 3) rfl (by decide) ?_
    refine E_callV (v := some (.int (-3))) (As := [.ref 0, .int 3]) (r0 := []) (cs2 := (w0.set 48 (.inl [0, 0, 0, 1, 0, 0, 0, 0]))) rfl rfl rfl (Nat.le_of_ble_eq_true rfl) rfl rfl c32_X5_refuse (by decide) (by simp only [List.length_set]) ?_
    exact E_iret rfl rfl, by
    refine Ef.in (md := mX6_copy) (L := [some (.ref 65), some (.int 0), some (.int 1), some (.int a3), some (.int a4), some (.int a5), none]) rfl (Nat.le_of_ble_eq_true rfl) rfl ?_
    refine E_aload_n rfl rfl ?_
    refine E_iload_n rfl rfl ?_
    refine E_callV (v := some (.int 1)) (As := [.ref 65, .int 0]) (r0 := []) (cs2 := (w0.set 48 (.inl [0, 0, 0, 1, 0, 0, 0, 0]))) rfl rfl rfl (Nat.le_of_ble_eq_true rfl) rfl rfl c34_X6_isShelf (by decide) rfl ?_
    refine E_if (t := 16) (b := false) rfl rfl (by decide) ?_
    refine E_aload_n rfl rfl ?_
    refine E_iload_n rfl rfl ?_
    refine E_callV (v := some (.int 1)) (As := [.ref 65, .int 1]) (r0 := []) (cs2 := (w0.set 48 (.inl [0, 0, 0, 1, 0, 0, 0, 0]))) rfl rfl rfl (Nat.le_of_ble_eq_true rfl) rfl rfl c39_X6_isShelf (by decide) rfl ?_
    refine E_if (t := 22) (b := true) rfl rfl (by decide) ?_
    refine E_aload_n rfl rfl ?_
    refine E_getfield (v := .ref 76) rfl rfl rfl (by decide) rfl ?_
    refine E_iload_n rfl rfl ?_
    refine E_iaload (x := 0) (j := 0) rfl rfl (by decide) (by decide) rfl ?_
    refine E_iconst (x := 2) rfl (by decide) ?_
    refine E_ic (t := 77) (b := false) rfl rfl (by decide) ?_
    refine E_aload_n rfl rfl ?_
    refine E_getfield (v := .ref 76) rfl rfl rfl (by decide) rfl ?_
    refine E_iload_n rfl rfl ?_
    refine E_iaload (x := 0) (j := 1) rfl rfl (by decide) (by decide) rfl ?_
    refine E_iconst (x := 2) rfl (by decide) ?_
    refine E_ic (t := 77) (b := false) rfl rfl (by decide) ?_
    refine E_aload_n rfl rfl ?_
    refine E_getfield (v := .ref 76) rfl rfl rfl (by decide) rfl ?_
    refine E_iload_n rfl rfl ?_
    refine E_iaload (x := 0) (j := 0) rfl rfl (by decide) (by decide) rfl ?_
    refine E_iconst (x := 1) rfl (by decide) ?_
    refine E_ic (t := 84) (b := true) rfl rfl (by decide) ?_
    refine E_aload_n rfl rfl ?_
    refine E_getfield (v := .ref 76) rfl rfl rfl (by decide) rfl ?_
    refine E_iload_n rfl rfl ?_
    refine E_iaload (x := 0) (j := 0) rfl rfl (by decide) (by decide) rfl ?_
    refine E_if (t := 102) (b := true) rfl rfl (by decide) ?_
    refine E_aload_n rfl rfl ?_
    refine E_bipush (x := (-3)) rfl (by decide) ?_
    refine E_callV (v := some (.int (-3))) (As := [.ref 65, .int (-3)]) (r0 := []) (cs2 := ((w0.set 48 (.inl [0, 0, 0, 1, 0, 0, 0, 0])).set 66 (.inl [0, 0, 0, 1, 0, 0, 0, 0]))) rfl rfl rfl (Nat.le_of_ble_eq_true rfl) rfl rfl c35_X6_no (by decide) (by simp only [List.length_set]) ?_
    exact E_iret rfl rfl, (by simp only [List.length_set]; rfl), (by simp only [List.length_set]; rfl), ((ab_szs rfl).trans ((ab_szs rfl).trans rfl)), fun _ => rfl⟩
theorem f_copy_5 (a3 a4 a5 : Int32) : p1_P 3 78 2 137 [.ref 0, .int 0, .int 2, .int a3, .int a4, .int a5] [.ref 65, .int 0, .int 2, .int a3, .int a4, .int a5] :=
  ⟨(-3), (w0.set 48 (.inl [0, 0, 0, 1, 0, 0, 0, 0])), ((w0.set 48 (.inl [0, 0, 0, 1, 0, 0, 0, 0])).set 66 (.inl [0, 0, 0, 1, 0, 0, 0, 0])), by
    refine Ef.in (md := mX5_copy) (L := [some (.ref 0), some (.int 0), some (.int 2), some (.int a3), some (.int a4), some (.int a5), none, none]) rfl (Nat.le_of_ble_eq_true rfl) rfl ?_
    refine E_iload_n rfl rfl ?_
    refine E_callS (v := some (.int 1)) (As := [.int 0]) (r0 := []) (cs2 := w0) rfl rfl rfl (Nat.le_of_ble_eq_true rfl) rfl c10_X5_isShelf (by decide) rfl ?_
    refine E_if (t := 14) (b := false) rfl rfl (by decide) ?_
    refine E_iload_n rfl rfl ?_
    refine E_callS (v := some (.int 1)) (As := [.int 2]) (r0 := []) (cs2 := w0) rfl rfl rfl (Nat.le_of_ble_eq_true rfl) rfl c14_X5_isShelf (by decide) rfl ?_
    refine E_if (t := 20) (b := true) rfl rfl (by decide) ?_
    refine E_aload_n rfl rfl ?_
    refine E_getfield (v := .ref 31) rfl rfl rfl (by decide) rfl ?_
    refine E_iload_n rfl rfl ?_
    refine E_aaload (b := 49) (j := 0) rfl rfl (by decide) (by decide) rfl ?_
    refine E_astore (L2 := [some (.ref 0), some (.int 0), some (.int 2), some (.int a3), some (.int a4), some (.int a5), some (.ref 49), none]) rfl rfl ?_
    refine E_aload_n rfl rfl ?_
    refine E_getfield (v := .ref 31) rfl rfl rfl (by decide) rfl ?_
    refine E_iload_n rfl rfl ?_
    refine E_aaload (b := 53) (j := 2) rfl rfl (by decide) (by decide) rfl ?_
    refine E_astore (L2 := [some (.ref 0), some (.int 0), some (.int 2), some (.int a3), some (.int a4), some (.int a5), some (.ref 49), some (.ref 53)]) rfl rfl ?_
    refine E_aload rfl rfl ?_
    refine E_callV (v := some (.int 0)) (As := [.ref 49]) (r0 := []) (cs2 := w0) rfl rfl rfl (Nat.le_of_ble_eq_true rfl) rfl rfl c30_X3_isOtherThanRow (by decide) rfl ?_
    refine E_if (t := 62) (b := false) rfl rfl (by decide) ?_
    refine E_aload rfl rfl ?_
    refine E_callV (v := some (.int 0)) (As := [.ref 53]) (r0 := []) (cs2 := w0) rfl rfl rfl (Nat.le_of_ble_eq_true rfl) rfl rfl c41_X3_isOtherThanRow (by decide) rfl ?_
    refine E_if (t := 62) (b := false) rfl rfl (by decide) ?_
    refine E_aload rfl rfl ?_
    refine E_aload rfl rfl ?_
    refine E_callV (v := some (.int 0)) (As := [.ref 49, .ref 53]) (r0 := []) (cs2 := w0) rfl rfl rfl (Nat.le_of_ble_eq_true rfl) rfl rfl c66_X3_isOfOtherSort (by decide) rfl ?_
    refine E_if (t := 68) (b := true) rfl rfl (by decide) ?_
    refine E_aload rfl rfl ?_
    refine E_callV (v := some (.int 1)) (As := [.ref 49]) (r0 := []) (cs2 := w0) rfl rfl rfl (Nat.le_of_ble_eq_true rfl) rfl rfl c31_X3_isEmpty (by decide) rfl ?_
    refine E_if (t := 84) (b := true) rfl rfl (by decide) ?_
    refine E_aload_n rfl rfl ?_
    refine E_iconst (x := 3) rfl (by decide) ?_
    refine E_callV (v := some (.int (-3))) (As := [.ref 0, .int 3]) (r0 := []) (cs2 := (w0.set 48 (.inl [0, 0, 0, 1, 0, 0, 0, 0]))) rfl rfl rfl (Nat.le_of_ble_eq_true rfl) rfl rfl c32_X5_refuse (by decide) (by simp only [List.length_set]) ?_
    exact E_iret rfl rfl, by
    refine Ef.in (md := mX6_copy) (L := [some (.ref 65), some (.int 0), some (.int 2), some (.int a3), some (.int a4), some (.int a5), none]) rfl (Nat.le_of_ble_eq_true rfl) rfl ?_
    refine E_aload_n rfl rfl ?_
    refine E_iload_n rfl rfl ?_
    refine E_callV (v := some (.int 1)) (As := [.ref 65, .int 0]) (r0 := []) (cs2 := (w0.set 48 (.inl [0, 0, 0, 1, 0, 0, 0, 0]))) rfl rfl rfl (Nat.le_of_ble_eq_true rfl) rfl rfl c34_X6_isShelf (by decide) rfl ?_
    refine E_if (t := 16) (b := false) rfl rfl (by decide) ?_
    refine E_aload_n rfl rfl ?_
    refine E_iload_n rfl rfl ?_
    refine E_callV (v := some (.int 1)) (As := [.ref 65, .int 2]) (r0 := []) (cs2 := (w0.set 48 (.inl [0, 0, 0, 1, 0, 0, 0, 0]))) rfl rfl rfl (Nat.le_of_ble_eq_true rfl) rfl rfl c43_X6_isShelf (by decide) rfl ?_
    refine E_if (t := 22) (b := true) rfl rfl (by decide) ?_
    refine E_aload_n rfl rfl ?_
    refine E_getfield (v := .ref 76) rfl rfl rfl (by decide) rfl ?_
    refine E_iload_n rfl rfl ?_
    refine E_iaload (x := 0) (j := 0) rfl rfl (by decide) (by decide) rfl ?_
    refine E_iconst (x := 2) rfl (by decide) ?_
    refine E_ic (t := 77) (b := false) rfl rfl (by decide) ?_
    refine E_aload_n rfl rfl ?_
    refine E_getfield (v := .ref 76) rfl rfl rfl (by decide) rfl ?_
    refine E_iload_n rfl rfl ?_
    refine E_iaload (x := 0) (j := 2) rfl rfl (by decide) (by decide) rfl ?_
    refine E_iconst (x := 2) rfl (by decide) ?_
    refine E_ic (t := 77) (b := false) rfl rfl (by decide) ?_
    refine E_aload_n rfl rfl ?_
    refine E_getfield (v := .ref 76) rfl rfl rfl (by decide) rfl ?_
    refine E_iload_n rfl rfl ?_
    refine E_iaload (x := 0) (j := 0) rfl rfl (by decide) (by decide) rfl ?_
    refine E_iconst (x := 1) rfl (by decide) ?_
    refine E_ic (t := 84) (b := true) rfl rfl (by decide) ?_
    refine E_aload_n rfl rfl ?_
    refine E_getfield (v := .ref 76) rfl rfl rfl (by decide) rfl ?_
    refine E_iload_n rfl rfl ?_
    refine E_iaload (x := 0) (j := 0) rfl rfl (by decide) (by decide) rfl ?_
    refine E_if (t := 102) (b := true) rfl rfl (by decide) ?_
    refine E_aload_n rfl rfl ?_
    refine E_bipush (x := (-3)) rfl (by decide) ?_
    refine E_callV (v := some (.int (-3))) (As := [.ref 65, .int (-3)]) (r0 := []) (cs2 := ((w0.set 48 (.inl [0, 0, 0, 1, 0, 0, 0, 0])).set 66 (.inl [0, 0, 0, 1, 0, 0, 0, 0]))) rfl rfl rfl (Nat.le_of_ble_eq_true rfl) rfl rfl c35_X6_no (by decide) (by simp only [List.length_set]) ?_
    exact E_iret rfl rfl, (by simp only [List.length_set]; rfl), (by simp only [List.length_set]; rfl), ((ab_szs rfl).trans ((ab_szs rfl).trans rfl)), fun _ => rfl⟩
theorem f_copy_6 (a3 a4 a5 : Int32) : p1_P 3 78 2 137 [.ref 0, .int 0, .int 3, .int a3, .int a4, .int a5] [.ref 65, .int 0, .int 3, .int a3, .int a4, .int a5] :=
  ⟨(-3), (w0.set 48 (.inl [0, 0, 0, 1, 0, 0, 0, 0])), ((w0.set 48 (.inl [0, 0, 0, 1, 0, 0, 0, 0])).set 66 (.inl [0, 0, 0, 1, 0, 0, 0, 0])), by
    refine Ef.in (md := mX5_copy) (L := [some (.ref 0), some (.int 0), some (.int 3), some (.int a3), some (.int a4), some (.int a5), none, none]) rfl (Nat.le_of_ble_eq_true rfl) rfl ?_
    refine E_iload_n rfl rfl ?_
    refine E_callS (v := some (.int 1)) (As := [.int 0]) (r0 := []) (cs2 := w0) rfl rfl rfl (Nat.le_of_ble_eq_true rfl) rfl c10_X5_isShelf (by decide) rfl ?_
    refine E_if (t := 14) (b := false) rfl rfl (by decide) ?_
    refine E_iload_n rfl rfl ?_
    refine E_callS (v := some (.int 1)) (As := [.int 3]) (r0 := []) (cs2 := w0) rfl rfl rfl (Nat.le_of_ble_eq_true rfl) rfl c16_X5_isShelf (by decide) rfl ?_
    refine E_if (t := 20) (b := true) rfl rfl (by decide) ?_
    refine E_aload_n rfl rfl ?_
    refine E_getfield (v := .ref 31) rfl rfl rfl (by decide) rfl ?_
    refine E_iload_n rfl rfl ?_
    refine E_aaload (b := 49) (j := 0) rfl rfl (by decide) (by decide) rfl ?_
    refine E_astore (L2 := [some (.ref 0), some (.int 0), some (.int 3), some (.int a3), some (.int a4), some (.int a5), some (.ref 49), none]) rfl rfl ?_
    refine E_aload_n rfl rfl ?_
    refine E_getfield (v := .ref 31) rfl rfl rfl (by decide) rfl ?_
    refine E_iload_n rfl rfl ?_
    refine E_aaload (b := 55) (j := 3) rfl rfl (by decide) (by decide) rfl ?_
    refine E_astore (L2 := [some (.ref 0), some (.int 0), some (.int 3), some (.int a3), some (.int a4), some (.int a5), some (.ref 49), some (.ref 55)]) rfl rfl ?_
    refine E_aload rfl rfl ?_
    refine E_callV (v := some (.int 0)) (As := [.ref 49]) (r0 := []) (cs2 := w0) rfl rfl rfl (Nat.le_of_ble_eq_true rfl) rfl rfl c30_X3_isOtherThanRow (by decide) rfl ?_
    refine E_if (t := 62) (b := false) rfl rfl (by decide) ?_
    refine E_aload rfl rfl ?_
    refine E_callV (v := some (.int 0)) (As := [.ref 55]) (r0 := []) (cs2 := w0) rfl rfl rfl (Nat.le_of_ble_eq_true rfl) rfl rfl c45_X3_isOtherThanRow (by decide) rfl ?_
    refine E_if (t := 62) (b := false) rfl rfl (by decide) ?_
    refine E_aload rfl rfl ?_
    refine E_aload rfl rfl ?_
    refine E_callV (v := some (.int 0)) (As := [.ref 49, .ref 55]) (r0 := []) (cs2 := w0) rfl rfl rfl (Nat.le_of_ble_eq_true rfl) rfl rfl c67_X3_isOfOtherSort (by decide) rfl ?_
    refine E_if (t := 68) (b := true) rfl rfl (by decide) ?_
    refine E_aload rfl rfl ?_
    refine E_callV (v := some (.int 1)) (As := [.ref 49]) (r0 := []) (cs2 := w0) rfl rfl rfl (Nat.le_of_ble_eq_true rfl) rfl rfl c31_X3_isEmpty (by decide) rfl ?_
    refine E_if (t := 84) (b := true) rfl rfl (by decide) ?_
    refine E_aload_n rfl rfl ?_
    refine E_iconst (x := 3) rfl (by decide) ?_
    refine E_callV (v := some (.int (-3))) (As := [.ref 0, .int 3]) (r0 := []) (cs2 := (w0.set 48 (.inl [0, 0, 0, 1, 0, 0, 0, 0]))) rfl rfl rfl (Nat.le_of_ble_eq_true rfl) rfl rfl c32_X5_refuse (by decide) (by simp only [List.length_set]) ?_
    exact E_iret rfl rfl, by
    refine Ef.in (md := mX6_copy) (L := [some (.ref 65), some (.int 0), some (.int 3), some (.int a3), some (.int a4), some (.int a5), none]) rfl (Nat.le_of_ble_eq_true rfl) rfl ?_
    refine E_aload_n rfl rfl ?_
    refine E_iload_n rfl rfl ?_
    refine E_callV (v := some (.int 1)) (As := [.ref 65, .int 0]) (r0 := []) (cs2 := (w0.set 48 (.inl [0, 0, 0, 1, 0, 0, 0, 0]))) rfl rfl rfl (Nat.le_of_ble_eq_true rfl) rfl rfl c34_X6_isShelf (by decide) rfl ?_
    refine E_if (t := 16) (b := false) rfl rfl (by decide) ?_
    refine E_aload_n rfl rfl ?_
    refine E_iload_n rfl rfl ?_
    refine E_callV (v := some (.int 1)) (As := [.ref 65, .int 3]) (r0 := []) (cs2 := (w0.set 48 (.inl [0, 0, 0, 1, 0, 0, 0, 0]))) rfl rfl rfl (Nat.le_of_ble_eq_true rfl) rfl rfl c47_X6_isShelf (by decide) rfl ?_
    refine E_if (t := 22) (b := true) rfl rfl (by decide) ?_
    refine E_aload_n rfl rfl ?_
    refine E_getfield (v := .ref 76) rfl rfl rfl (by decide) rfl ?_
    refine E_iload_n rfl rfl ?_
    refine E_iaload (x := 0) (j := 0) rfl rfl (by decide) (by decide) rfl ?_
    refine E_iconst (x := 2) rfl (by decide) ?_
    refine E_ic (t := 77) (b := false) rfl rfl (by decide) ?_
    refine E_aload_n rfl rfl ?_
    refine E_getfield (v := .ref 76) rfl rfl rfl (by decide) rfl ?_
    refine E_iload_n rfl rfl ?_
    refine E_iaload (x := 0) (j := 3) rfl rfl (by decide) (by decide) rfl ?_
    refine E_iconst (x := 2) rfl (by decide) ?_
    refine E_ic (t := 77) (b := false) rfl rfl (by decide) ?_
    refine E_aload_n rfl rfl ?_
    refine E_getfield (v := .ref 76) rfl rfl rfl (by decide) rfl ?_
    refine E_iload_n rfl rfl ?_
    refine E_iaload (x := 0) (j := 0) rfl rfl (by decide) (by decide) rfl ?_
    refine E_iconst (x := 1) rfl (by decide) ?_
    refine E_ic (t := 84) (b := true) rfl rfl (by decide) ?_
    refine E_aload_n rfl rfl ?_
    refine E_getfield (v := .ref 76) rfl rfl rfl (by decide) rfl ?_
    refine E_iload_n rfl rfl ?_
    refine E_iaload (x := 0) (j := 0) rfl rfl (by decide) (by decide) rfl ?_
    refine E_if (t := 102) (b := true) rfl rfl (by decide) ?_
    refine E_aload_n rfl rfl ?_
    refine E_bipush (x := (-3)) rfl (by decide) ?_
    refine E_callV (v := some (.int (-3))) (As := [.ref 65, .int (-3)]) (r0 := []) (cs2 := ((w0.set 48 (.inl [0, 0, 0, 1, 0, 0, 0, 0])).set 66 (.inl [0, 0, 0, 1, 0, 0, 0, 0]))) rfl rfl rfl (Nat.le_of_ble_eq_true rfl) rfl rfl c35_X6_no (by decide) (by simp only [List.length_set]) ?_
    exact E_iret rfl rfl, (by simp only [List.length_set]; rfl), (by simp only [List.length_set]; rfl), ((ab_szs rfl).trans ((ab_szs rfl).trans rfl)), fun _ => rfl⟩
theorem f_copy_7 (a3 a4 a5 : Int32) : p1_P 3 78 2 137 [.ref 0, .int 0, .int 4, .int a3, .int a4, .int a5] [.ref 65, .int 0, .int 4, .int a3, .int a4, .int a5] :=
  ⟨(-3), (w0.set 48 (.inl [0, 0, 0, 1, 0, 0, 0, 0])), ((w0.set 48 (.inl [0, 0, 0, 1, 0, 0, 0, 0])).set 66 (.inl [0, 0, 0, 1, 0, 0, 0, 0])), by
    refine Ef.in (md := mX5_copy) (L := [some (.ref 0), some (.int 0), some (.int 4), some (.int a3), some (.int a4), some (.int a5), none, none]) rfl (Nat.le_of_ble_eq_true rfl) rfl ?_
    refine E_iload_n rfl rfl ?_
    refine E_callS (v := some (.int 1)) (As := [.int 0]) (r0 := []) (cs2 := w0) rfl rfl rfl (Nat.le_of_ble_eq_true rfl) rfl c10_X5_isShelf (by decide) rfl ?_
    refine E_if (t := 14) (b := false) rfl rfl (by decide) ?_
    refine E_iload_n rfl rfl ?_
    refine E_callS (v := some (.int 1)) (As := [.int 4]) (r0 := []) (cs2 := w0) rfl rfl rfl (Nat.le_of_ble_eq_true rfl) rfl c18_X5_isShelf (by decide) rfl ?_
    refine E_if (t := 20) (b := true) rfl rfl (by decide) ?_
    refine E_aload_n rfl rfl ?_
    refine E_getfield (v := .ref 31) rfl rfl rfl (by decide) rfl ?_
    refine E_iload_n rfl rfl ?_
    refine E_aaload (b := 49) (j := 0) rfl rfl (by decide) (by decide) rfl ?_
    refine E_astore (L2 := [some (.ref 0), some (.int 0), some (.int 4), some (.int a3), some (.int a4), some (.int a5), some (.ref 49), none]) rfl rfl ?_
    refine E_aload_n rfl rfl ?_
    refine E_getfield (v := .ref 31) rfl rfl rfl (by decide) rfl ?_
    refine E_iload_n rfl rfl ?_
    refine E_aaload (b := 57) (j := 4) rfl rfl (by decide) (by decide) rfl ?_
    refine E_astore (L2 := [some (.ref 0), some (.int 0), some (.int 4), some (.int a3), some (.int a4), some (.int a5), some (.ref 49), some (.ref 57)]) rfl rfl ?_
    refine E_aload rfl rfl ?_
    refine E_callV (v := some (.int 0)) (As := [.ref 49]) (r0 := []) (cs2 := w0) rfl rfl rfl (Nat.le_of_ble_eq_true rfl) rfl rfl c30_X3_isOtherThanRow (by decide) rfl ?_
    refine E_if (t := 62) (b := false) rfl rfl (by decide) ?_
    refine E_aload rfl rfl ?_
    refine E_callV (v := some (.int 0)) (As := [.ref 57]) (r0 := []) (cs2 := w0) rfl rfl rfl (Nat.le_of_ble_eq_true rfl) rfl rfl c49_X3_isOtherThanRow (by decide) rfl ?_
    refine E_if (t := 62) (b := false) rfl rfl (by decide) ?_
    refine E_aload rfl rfl ?_
    refine E_aload rfl rfl ?_
    refine E_callV (v := some (.int 0)) (As := [.ref 49, .ref 57]) (r0 := []) (cs2 := w0) rfl rfl rfl (Nat.le_of_ble_eq_true rfl) rfl rfl c68_X3_isOfOtherSort (by decide) rfl ?_
    refine E_if (t := 68) (b := true) rfl rfl (by decide) ?_
    refine E_aload rfl rfl ?_
    refine E_callV (v := some (.int 1)) (As := [.ref 49]) (r0 := []) (cs2 := w0) rfl rfl rfl (Nat.le_of_ble_eq_true rfl) rfl rfl c31_X3_isEmpty (by decide) rfl ?_
    refine E_if (t := 84) (b := true) rfl rfl (by decide) ?_
    refine E_aload_n rfl rfl ?_
    refine E_iconst (x := 3) rfl (by decide) ?_
    refine E_callV (v := some (.int (-3))) (As := [.ref 0, .int 3]) (r0 := []) (cs2 := (w0.set 48 (.inl [0, 0, 0, 1, 0, 0, 0, 0]))) rfl rfl rfl (Nat.le_of_ble_eq_true rfl) rfl rfl c32_X5_refuse (by decide) (by simp only [List.length_set]) ?_
    exact E_iret rfl rfl, by
    refine Ef.in (md := mX6_copy) (L := [some (.ref 65), some (.int 0), some (.int 4), some (.int a3), some (.int a4), some (.int a5), none]) rfl (Nat.le_of_ble_eq_true rfl) rfl ?_
    refine E_aload_n rfl rfl ?_
    refine E_iload_n rfl rfl ?_
    refine E_callV (v := some (.int 1)) (As := [.ref 65, .int 0]) (r0 := []) (cs2 := (w0.set 48 (.inl [0, 0, 0, 1, 0, 0, 0, 0]))) rfl rfl rfl (Nat.le_of_ble_eq_true rfl) rfl rfl c34_X6_isShelf (by decide) rfl ?_
    refine E_if (t := 16) (b := false) rfl rfl (by decide) ?_
    refine E_aload_n rfl rfl ?_
    refine E_iload_n rfl rfl ?_
    refine E_callV (v := some (.int 1)) (As := [.ref 65, .int 4]) (r0 := []) (cs2 := (w0.set 48 (.inl [0, 0, 0, 1, 0, 0, 0, 0]))) rfl rfl rfl (Nat.le_of_ble_eq_true rfl) rfl rfl c51_X6_isShelf (by decide) rfl ?_
    refine E_if (t := 22) (b := true) rfl rfl (by decide) ?_
    refine E_aload_n rfl rfl ?_
    refine E_getfield (v := .ref 76) rfl rfl rfl (by decide) rfl ?_
    refine E_iload_n rfl rfl ?_
    refine E_iaload (x := 0) (j := 0) rfl rfl (by decide) (by decide) rfl ?_
    refine E_iconst (x := 2) rfl (by decide) ?_
    refine E_ic (t := 77) (b := false) rfl rfl (by decide) ?_
    refine E_aload_n rfl rfl ?_
    refine E_getfield (v := .ref 76) rfl rfl rfl (by decide) rfl ?_
    refine E_iload_n rfl rfl ?_
    refine E_iaload (x := 0) (j := 4) rfl rfl (by decide) (by decide) rfl ?_
    refine E_iconst (x := 2) rfl (by decide) ?_
    refine E_ic (t := 77) (b := false) rfl rfl (by decide) ?_
    refine E_aload_n rfl rfl ?_
    refine E_getfield (v := .ref 76) rfl rfl rfl (by decide) rfl ?_
    refine E_iload_n rfl rfl ?_
    refine E_iaload (x := 0) (j := 0) rfl rfl (by decide) (by decide) rfl ?_
    refine E_iconst (x := 1) rfl (by decide) ?_
    refine E_ic (t := 84) (b := true) rfl rfl (by decide) ?_
    refine E_aload_n rfl rfl ?_
    refine E_getfield (v := .ref 76) rfl rfl rfl (by decide) rfl ?_
    refine E_iload_n rfl rfl ?_
    refine E_iaload (x := 0) (j := 0) rfl rfl (by decide) (by decide) rfl ?_
    refine E_if (t := 102) (b := true) rfl rfl (by decide) ?_
    refine E_aload_n rfl rfl ?_
    refine E_bipush (x := (-3)) rfl (by decide) ?_
    refine E_callV (v := some (.int (-3))) (As := [.ref 65, .int (-3)]) (r0 := []) (cs2 := ((w0.set 48 (.inl [0, 0, 0, 1, 0, 0, 0, 0])).set 66 (.inl [0, 0, 0, 1, 0, 0, 0, 0]))) rfl rfl rfl (Nat.le_of_ble_eq_true rfl) rfl rfl c35_X6_no (by decide) (by simp only [List.length_set]) ?_
    exact E_iret rfl rfl, (by simp only [List.length_set]; rfl), (by simp only [List.length_set]; rfl), ((ab_szs rfl).trans ((ab_szs rfl).trans rfl)), fun _ => rfl⟩
theorem f_copy_8 (a3 a4 a5 : Int32) : p1_P 3 78 2 137 [.ref 0, .int 0, .int 5, .int a3, .int a4, .int a5] [.ref 65, .int 0, .int 5, .int a3, .int a4, .int a5] :=
  ⟨(-3), (w0.set 48 (.inl [0, 0, 0, 1, 0, 0, 0, 0])), ((w0.set 48 (.inl [0, 0, 0, 1, 0, 0, 0, 0])).set 66 (.inl [0, 0, 0, 1, 0, 0, 0, 0])), by
    refine Ef.in (md := mX5_copy) (L := [some (.ref 0), some (.int 0), some (.int 5), some (.int a3), some (.int a4), some (.int a5), none, none]) rfl (Nat.le_of_ble_eq_true rfl) rfl ?_
    refine E_iload_n rfl rfl ?_
    refine E_callS (v := some (.int 1)) (As := [.int 0]) (r0 := []) (cs2 := w0) rfl rfl rfl (Nat.le_of_ble_eq_true rfl) rfl c10_X5_isShelf (by decide) rfl ?_
    refine E_if (t := 14) (b := false) rfl rfl (by decide) ?_
    refine E_iload_n rfl rfl ?_
    refine E_callS (v := some (.int 1)) (As := [.int 5]) (r0 := []) (cs2 := w0) rfl rfl rfl (Nat.le_of_ble_eq_true rfl) rfl c20_X5_isShelf (by decide) rfl ?_
    refine E_if (t := 20) (b := true) rfl rfl (by decide) ?_
    refine E_aload_n rfl rfl ?_
    refine E_getfield (v := .ref 31) rfl rfl rfl (by decide) rfl ?_
    refine E_iload_n rfl rfl ?_
    refine E_aaload (b := 49) (j := 0) rfl rfl (by decide) (by decide) rfl ?_
    refine E_astore (L2 := [some (.ref 0), some (.int 0), some (.int 5), some (.int a3), some (.int a4), some (.int a5), some (.ref 49), none]) rfl rfl ?_
    refine E_aload_n rfl rfl ?_
    refine E_getfield (v := .ref 31) rfl rfl rfl (by decide) rfl ?_
    refine E_iload_n rfl rfl ?_
    refine E_aaload (b := 59) (j := 5) rfl rfl (by decide) (by decide) rfl ?_
    refine E_astore (L2 := [some (.ref 0), some (.int 0), some (.int 5), some (.int a3), some (.int a4), some (.int a5), some (.ref 49), some (.ref 59)]) rfl rfl ?_
    refine E_aload rfl rfl ?_
    refine E_callV (v := some (.int 0)) (As := [.ref 49]) (r0 := []) (cs2 := w0) rfl rfl rfl (Nat.le_of_ble_eq_true rfl) rfl rfl c30_X3_isOtherThanRow (by decide) rfl ?_
    refine E_if (t := 62) (b := false) rfl rfl (by decide) ?_
    refine E_aload rfl rfl ?_
    refine E_callV (v := some (.int 0)) (As := [.ref 59]) (r0 := []) (cs2 := w0) rfl rfl rfl (Nat.le_of_ble_eq_true rfl) rfl rfl c53_X3_isOtherThanRow (by decide) rfl ?_
    refine E_if (t := 62) (b := false) rfl rfl (by decide) ?_
    refine E_aload rfl rfl ?_
    refine E_aload rfl rfl ?_
    refine E_callV (v := some (.int 0)) (As := [.ref 49, .ref 59]) (r0 := []) (cs2 := w0) rfl rfl rfl (Nat.le_of_ble_eq_true rfl) rfl rfl c69_X3_isOfOtherSort (by decide) rfl ?_
    refine E_if (t := 68) (b := true) rfl rfl (by decide) ?_
    refine E_aload rfl rfl ?_
    refine E_callV (v := some (.int 1)) (As := [.ref 49]) (r0 := []) (cs2 := w0) rfl rfl rfl (Nat.le_of_ble_eq_true rfl) rfl rfl c31_X3_isEmpty (by decide) rfl ?_
    refine E_if (t := 84) (b := true) rfl rfl (by decide) ?_
    refine E_aload_n rfl rfl ?_
    refine E_iconst (x := 3) rfl (by decide) ?_
    refine E_callV (v := some (.int (-3))) (As := [.ref 0, .int 3]) (r0 := []) (cs2 := (w0.set 48 (.inl [0, 0, 0, 1, 0, 0, 0, 0]))) rfl rfl rfl (Nat.le_of_ble_eq_true rfl) rfl rfl c32_X5_refuse (by decide) (by simp only [List.length_set]) ?_
    exact E_iret rfl rfl, by
    refine Ef.in (md := mX6_copy) (L := [some (.ref 65), some (.int 0), some (.int 5), some (.int a3), some (.int a4), some (.int a5), none]) rfl (Nat.le_of_ble_eq_true rfl) rfl ?_
    refine E_aload_n rfl rfl ?_
    refine E_iload_n rfl rfl ?_
    refine E_callV (v := some (.int 1)) (As := [.ref 65, .int 0]) (r0 := []) (cs2 := (w0.set 48 (.inl [0, 0, 0, 1, 0, 0, 0, 0]))) rfl rfl rfl (Nat.le_of_ble_eq_true rfl) rfl rfl c34_X6_isShelf (by decide) rfl ?_
    refine E_if (t := 16) (b := false) rfl rfl (by decide) ?_
    refine E_aload_n rfl rfl ?_
    refine E_iload_n rfl rfl ?_
    refine E_callV (v := some (.int 1)) (As := [.ref 65, .int 5]) (r0 := []) (cs2 := (w0.set 48 (.inl [0, 0, 0, 1, 0, 0, 0, 0]))) rfl rfl rfl (Nat.le_of_ble_eq_true rfl) rfl rfl c55_X6_isShelf (by decide) rfl ?_
    refine E_if (t := 22) (b := true) rfl rfl (by decide) ?_
    refine E_aload_n rfl rfl ?_
    refine E_getfield (v := .ref 76) rfl rfl rfl (by decide) rfl ?_
    refine E_iload_n rfl rfl ?_
    refine E_iaload (x := 0) (j := 0) rfl rfl (by decide) (by decide) rfl ?_
    refine E_iconst (x := 2) rfl (by decide) ?_
    refine E_ic (t := 77) (b := false) rfl rfl (by decide) ?_
    refine E_aload_n rfl rfl ?_
    refine E_getfield (v := .ref 76) rfl rfl rfl (by decide) rfl ?_
    refine E_iload_n rfl rfl ?_
    refine E_iaload (x := 0) (j := 5) rfl rfl (by decide) (by decide) rfl ?_
    refine E_iconst (x := 2) rfl (by decide) ?_
    refine E_ic (t := 77) (b := false) rfl rfl (by decide) ?_
    refine E_aload_n rfl rfl ?_
    refine E_getfield (v := .ref 76) rfl rfl rfl (by decide) rfl ?_
    refine E_iload_n rfl rfl ?_
    refine E_iaload (x := 0) (j := 0) rfl rfl (by decide) (by decide) rfl ?_
    refine E_iconst (x := 1) rfl (by decide) ?_
    refine E_ic (t := 84) (b := true) rfl rfl (by decide) ?_
    refine E_aload_n rfl rfl ?_
    refine E_getfield (v := .ref 76) rfl rfl rfl (by decide) rfl ?_
    refine E_iload_n rfl rfl ?_
    refine E_iaload (x := 0) (j := 0) rfl rfl (by decide) (by decide) rfl ?_
    refine E_if (t := 102) (b := true) rfl rfl (by decide) ?_
    refine E_aload_n rfl rfl ?_
    refine E_bipush (x := (-3)) rfl (by decide) ?_
    refine E_callV (v := some (.int (-3))) (As := [.ref 65, .int (-3)]) (r0 := []) (cs2 := ((w0.set 48 (.inl [0, 0, 0, 1, 0, 0, 0, 0])).set 66 (.inl [0, 0, 0, 1, 0, 0, 0, 0]))) rfl rfl rfl (Nat.le_of_ble_eq_true rfl) rfl rfl c35_X6_no (by decide) (by simp only [List.length_set]) ?_
    exact E_iret rfl rfl, (by simp only [List.length_set]; rfl), (by simp only [List.length_set]; rfl), ((ab_szs rfl).trans ((ab_szs rfl).trans rfl)), fun _ => rfl⟩
theorem f_copy_9 (a3 a4 a5 : Int32) : p1_P 3 78 2 137 [.ref 0, .int 0, .int 6, .int a3, .int a4, .int a5] [.ref 65, .int 0, .int 6, .int a3, .int a4, .int a5] :=
  ⟨(-3), (w0.set 48 (.inl [0, 0, 0, 1, 0, 0, 0, 0])), ((w0.set 48 (.inl [0, 0, 0, 1, 0, 0, 0, 0])).set 66 (.inl [0, 0, 0, 1, 0, 0, 0, 0])), by
    refine Ef.in (md := mX5_copy) (L := [some (.ref 0), some (.int 0), some (.int 6), some (.int a3), some (.int a4), some (.int a5), none, none]) rfl (Nat.le_of_ble_eq_true rfl) rfl ?_
    refine E_iload_n rfl rfl ?_
    refine E_callS (v := some (.int 1)) (As := [.int 0]) (r0 := []) (cs2 := w0) rfl rfl rfl (Nat.le_of_ble_eq_true rfl) rfl c10_X5_isShelf (by decide) rfl ?_
    refine E_if (t := 14) (b := false) rfl rfl (by decide) ?_
    refine E_iload_n rfl rfl ?_
    refine E_callS (v := some (.int 1)) (As := [.int 6]) (r0 := []) (cs2 := w0) rfl rfl rfl (Nat.le_of_ble_eq_true rfl) rfl c22_X5_isShelf (by decide) rfl ?_
    refine E_if (t := 20) (b := true) rfl rfl (by decide) ?_
    refine E_aload_n rfl rfl ?_
    refine E_getfield (v := .ref 31) rfl rfl rfl (by decide) rfl ?_
    refine E_iload_n rfl rfl ?_
    refine E_aaload (b := 49) (j := 0) rfl rfl (by decide) (by decide) rfl ?_
    refine E_astore (L2 := [some (.ref 0), some (.int 0), some (.int 6), some (.int a3), some (.int a4), some (.int a5), some (.ref 49), none]) rfl rfl ?_
    refine E_aload_n rfl rfl ?_
    refine E_getfield (v := .ref 31) rfl rfl rfl (by decide) rfl ?_
    refine E_iload_n rfl rfl ?_
    refine E_aaload (b := 61) (j := 6) rfl rfl (by decide) (by decide) rfl ?_
    refine E_astore (L2 := [some (.ref 0), some (.int 0), some (.int 6), some (.int a3), some (.int a4), some (.int a5), some (.ref 49), some (.ref 61)]) rfl rfl ?_
    refine E_aload rfl rfl ?_
    refine E_callV (v := some (.int 0)) (As := [.ref 49]) (r0 := []) (cs2 := w0) rfl rfl rfl (Nat.le_of_ble_eq_true rfl) rfl rfl c30_X3_isOtherThanRow (by decide) rfl ?_
    refine E_if (t := 62) (b := false) rfl rfl (by decide) ?_
    refine E_aload rfl rfl ?_
    refine E_callV (v := some (.int 0)) (As := [.ref 61]) (r0 := []) (cs2 := w0) rfl rfl rfl (Nat.le_of_ble_eq_true rfl) rfl rfl c57_X3_isOtherThanRow (by decide) rfl ?_
    refine E_if (t := 62) (b := false) rfl rfl (by decide) ?_
    refine E_aload rfl rfl ?_
    refine E_aload rfl rfl ?_
    refine E_callV (v := some (.int 0)) (As := [.ref 49, .ref 61]) (r0 := []) (cs2 := w0) rfl rfl rfl (Nat.le_of_ble_eq_true rfl) rfl rfl c70_X3_isOfOtherSort (by decide) rfl ?_
    refine E_if (t := 68) (b := true) rfl rfl (by decide) ?_
    refine E_aload rfl rfl ?_
    refine E_callV (v := some (.int 1)) (As := [.ref 49]) (r0 := []) (cs2 := w0) rfl rfl rfl (Nat.le_of_ble_eq_true rfl) rfl rfl c31_X3_isEmpty (by decide) rfl ?_
    refine E_if (t := 84) (b := true) rfl rfl (by decide) ?_
    refine E_aload_n rfl rfl ?_
    refine E_iconst (x := 3) rfl (by decide) ?_
    refine E_callV (v := some (.int (-3))) (As := [.ref 0, .int 3]) (r0 := []) (cs2 := (w0.set 48 (.inl [0, 0, 0, 1, 0, 0, 0, 0]))) rfl rfl rfl (Nat.le_of_ble_eq_true rfl) rfl rfl c32_X5_refuse (by decide) (by simp only [List.length_set]) ?_
    exact E_iret rfl rfl, by
    refine Ef.in (md := mX6_copy) (L := [some (.ref 65), some (.int 0), some (.int 6), some (.int a3), some (.int a4), some (.int a5), none]) rfl (Nat.le_of_ble_eq_true rfl) rfl ?_
    refine E_aload_n rfl rfl ?_
    refine E_iload_n rfl rfl ?_
    refine E_callV (v := some (.int 1)) (As := [.ref 65, .int 0]) (r0 := []) (cs2 := (w0.set 48 (.inl [0, 0, 0, 1, 0, 0, 0, 0]))) rfl rfl rfl (Nat.le_of_ble_eq_true rfl) rfl rfl c34_X6_isShelf (by decide) rfl ?_
    refine E_if (t := 16) (b := false) rfl rfl (by decide) ?_
    refine E_aload_n rfl rfl ?_
    refine E_iload_n rfl rfl ?_
    refine E_callV (v := some (.int 1)) (As := [.ref 65, .int 6]) (r0 := []) (cs2 := (w0.set 48 (.inl [0, 0, 0, 1, 0, 0, 0, 0]))) rfl rfl rfl (Nat.le_of_ble_eq_true rfl) rfl rfl c59_X6_isShelf (by decide) rfl ?_
    refine E_if (t := 22) (b := true) rfl rfl (by decide) ?_
    refine E_aload_n rfl rfl ?_
    refine E_getfield (v := .ref 76) rfl rfl rfl (by decide) rfl ?_
    refine E_iload_n rfl rfl ?_
    refine E_iaload (x := 0) (j := 0) rfl rfl (by decide) (by decide) rfl ?_
    refine E_iconst (x := 2) rfl (by decide) ?_
    refine E_ic (t := 77) (b := false) rfl rfl (by decide) ?_
    refine E_aload_n rfl rfl ?_
    refine E_getfield (v := .ref 76) rfl rfl rfl (by decide) rfl ?_
    refine E_iload_n rfl rfl ?_
    refine E_iaload (x := 0) (j := 6) rfl rfl (by decide) (by decide) rfl ?_
    refine E_iconst (x := 2) rfl (by decide) ?_
    refine E_ic (t := 77) (b := false) rfl rfl (by decide) ?_
    refine E_aload_n rfl rfl ?_
    refine E_getfield (v := .ref 76) rfl rfl rfl (by decide) rfl ?_
    refine E_iload_n rfl rfl ?_
    refine E_iaload (x := 0) (j := 0) rfl rfl (by decide) (by decide) rfl ?_
    refine E_iconst (x := 1) rfl (by decide) ?_
    refine E_ic (t := 84) (b := true) rfl rfl (by decide) ?_
    refine E_aload_n rfl rfl ?_
    refine E_getfield (v := .ref 76) rfl rfl rfl (by decide) rfl ?_
    refine E_iload_n rfl rfl ?_
    refine E_iaload (x := 0) (j := 0) rfl rfl (by decide) (by decide) rfl ?_
    refine E_if (t := 102) (b := true) rfl rfl (by decide) ?_
    refine E_aload_n rfl rfl ?_
    refine E_bipush (x := (-3)) rfl (by decide) ?_
    refine E_callV (v := some (.int (-3))) (As := [.ref 65, .int (-3)]) (r0 := []) (cs2 := ((w0.set 48 (.inl [0, 0, 0, 1, 0, 0, 0, 0])).set 66 (.inl [0, 0, 0, 1, 0, 0, 0, 0]))) rfl rfl rfl (Nat.le_of_ble_eq_true rfl) rfl rfl c35_X6_no (by decide) (by simp only [List.length_set]) ?_
    exact E_iret rfl rfl, (by simp only [List.length_set]; rfl), (by simp only [List.length_set]; rfl), ((ab_szs rfl).trans ((ab_szs rfl).trans rfl)), fun _ => rfl⟩
theorem f_copy_10 (a3 a4 a5 : Int32) : p1_P 3 78 2 137 [.ref 0, .int 0, .int 7, .int a3, .int a4, .int a5] [.ref 65, .int 0, .int 7, .int a3, .int a4, .int a5] :=
  ⟨(-3), (w0.set 48 (.inl [0, 0, 0, 1, 0, 0, 0, 0])), ((w0.set 48 (.inl [0, 0, 0, 1, 0, 0, 0, 0])).set 66 (.inl [0, 0, 0, 1, 0, 0, 0, 0])), by
    refine Ef.in (md := mX5_copy) (L := [some (.ref 0), some (.int 0), some (.int 7), some (.int a3), some (.int a4), some (.int a5), none, none]) rfl (Nat.le_of_ble_eq_true rfl) rfl ?_
    refine E_iload_n rfl rfl ?_
    refine E_callS (v := some (.int 1)) (As := [.int 0]) (r0 := []) (cs2 := w0) rfl rfl rfl (Nat.le_of_ble_eq_true rfl) rfl c10_X5_isShelf (by decide) rfl ?_
    refine E_if (t := 14) (b := false) rfl rfl (by decide) ?_
    refine E_iload_n rfl rfl ?_
    refine E_callS (v := some (.int 1)) (As := [.int 7]) (r0 := []) (cs2 := w0) rfl rfl rfl (Nat.le_of_ble_eq_true rfl) rfl c24_X5_isShelf (by decide) rfl ?_
    refine E_if (t := 20) (b := true) rfl rfl (by decide) ?_
    refine E_aload_n rfl rfl ?_
    refine E_getfield (v := .ref 31) rfl rfl rfl (by decide) rfl ?_
    refine E_iload_n rfl rfl ?_
    refine E_aaload (b := 49) (j := 0) rfl rfl (by decide) (by decide) rfl ?_
    refine E_astore (L2 := [some (.ref 0), some (.int 0), some (.int 7), some (.int a3), some (.int a4), some (.int a5), some (.ref 49), none]) rfl rfl ?_
    refine E_aload_n rfl rfl ?_
    refine E_getfield (v := .ref 31) rfl rfl rfl (by decide) rfl ?_
    refine E_iload_n rfl rfl ?_
    refine E_aaload (b := 63) (j := 7) rfl rfl (by decide) (by decide) rfl ?_
    refine E_astore (L2 := [some (.ref 0), some (.int 0), some (.int 7), some (.int a3), some (.int a4), some (.int a5), some (.ref 49), some (.ref 63)]) rfl rfl ?_
    refine E_aload rfl rfl ?_
    refine E_callV (v := some (.int 0)) (As := [.ref 49]) (r0 := []) (cs2 := w0) rfl rfl rfl (Nat.le_of_ble_eq_true rfl) rfl rfl c30_X3_isOtherThanRow (by decide) rfl ?_
    refine E_if (t := 62) (b := false) rfl rfl (by decide) ?_
    refine E_aload rfl rfl ?_
    refine E_callV (v := some (.int 0)) (As := [.ref 63]) (r0 := []) (cs2 := w0) rfl rfl rfl (Nat.le_of_ble_eq_true rfl) rfl rfl c61_X3_isOtherThanRow (by decide) rfl ?_
    refine E_if (t := 62) (b := false) rfl rfl (by decide) ?_
    refine E_aload rfl rfl ?_
    refine E_aload rfl rfl ?_
    refine E_callV (v := some (.int 0)) (As := [.ref 49, .ref 63]) (r0 := []) (cs2 := w0) rfl rfl rfl (Nat.le_of_ble_eq_true rfl) rfl rfl c71_X3_isOfOtherSort (by decide) rfl ?_
    refine E_if (t := 68) (b := true) rfl rfl (by decide) ?_
    refine E_aload rfl rfl ?_
    refine E_callV (v := some (.int 1)) (As := [.ref 49]) (r0 := []) (cs2 := w0) rfl rfl rfl (Nat.le_of_ble_eq_true rfl) rfl rfl c31_X3_isEmpty (by decide) rfl ?_
    refine E_if (t := 84) (b := true) rfl rfl (by decide) ?_
    refine E_aload_n rfl rfl ?_
    refine E_iconst (x := 3) rfl (by decide) ?_
    refine E_callV (v := some (.int (-3))) (As := [.ref 0, .int 3]) (r0 := []) (cs2 := (w0.set 48 (.inl [0, 0, 0, 1, 0, 0, 0, 0]))) rfl rfl rfl (Nat.le_of_ble_eq_true rfl) rfl rfl c32_X5_refuse (by decide) (by simp only [List.length_set]) ?_
    exact E_iret rfl rfl, by
    refine Ef.in (md := mX6_copy) (L := [some (.ref 65), some (.int 0), some (.int 7), some (.int a3), some (.int a4), some (.int a5), none]) rfl (Nat.le_of_ble_eq_true rfl) rfl ?_
    refine E_aload_n rfl rfl ?_
    refine E_iload_n rfl rfl ?_
    refine E_callV (v := some (.int 1)) (As := [.ref 65, .int 0]) (r0 := []) (cs2 := (w0.set 48 (.inl [0, 0, 0, 1, 0, 0, 0, 0]))) rfl rfl rfl (Nat.le_of_ble_eq_true rfl) rfl rfl c34_X6_isShelf (by decide) rfl ?_
    refine E_if (t := 16) (b := false) rfl rfl (by decide) ?_
    refine E_aload_n rfl rfl ?_
    refine E_iload_n rfl rfl ?_
    refine E_callV (v := some (.int 1)) (As := [.ref 65, .int 7]) (r0 := []) (cs2 := (w0.set 48 (.inl [0, 0, 0, 1, 0, 0, 0, 0]))) rfl rfl rfl (Nat.le_of_ble_eq_true rfl) rfl rfl c63_X6_isShelf (by decide) rfl ?_
    refine E_if (t := 22) (b := true) rfl rfl (by decide) ?_
    refine E_aload_n rfl rfl ?_
    refine E_getfield (v := .ref 76) rfl rfl rfl (by decide) rfl ?_
    refine E_iload_n rfl rfl ?_
    refine E_iaload (x := 0) (j := 0) rfl rfl (by decide) (by decide) rfl ?_
    refine E_iconst (x := 2) rfl (by decide) ?_
    refine E_ic (t := 77) (b := false) rfl rfl (by decide) ?_
    refine E_aload_n rfl rfl ?_
    refine E_getfield (v := .ref 76) rfl rfl rfl (by decide) rfl ?_
    refine E_iload_n rfl rfl ?_
    refine E_iaload (x := 0) (j := 7) rfl rfl (by decide) (by decide) rfl ?_
    refine E_iconst (x := 2) rfl (by decide) ?_
    refine E_ic (t := 77) (b := false) rfl rfl (by decide) ?_
    refine E_aload_n rfl rfl ?_
    refine E_getfield (v := .ref 76) rfl rfl rfl (by decide) rfl ?_
    refine E_iload_n rfl rfl ?_
    refine E_iaload (x := 0) (j := 0) rfl rfl (by decide) (by decide) rfl ?_
    refine E_iconst (x := 1) rfl (by decide) ?_
    refine E_ic (t := 84) (b := true) rfl rfl (by decide) ?_
    refine E_aload_n rfl rfl ?_
    refine E_getfield (v := .ref 76) rfl rfl rfl (by decide) rfl ?_
    refine E_iload_n rfl rfl ?_
    refine E_iaload (x := 0) (j := 0) rfl rfl (by decide) (by decide) rfl ?_
    refine E_if (t := 102) (b := true) rfl rfl (by decide) ?_
    refine E_aload_n rfl rfl ?_
    refine E_bipush (x := (-3)) rfl (by decide) ?_
    refine E_callV (v := some (.int (-3))) (As := [.ref 65, .int (-3)]) (r0 := []) (cs2 := ((w0.set 48 (.inl [0, 0, 0, 1, 0, 0, 0, 0])).set 66 (.inl [0, 0, 0, 1, 0, 0, 0, 0]))) rfl rfl rfl (Nat.le_of_ble_eq_true rfl) rfl rfl c35_X6_no (by decide) (by simp only [List.length_set]) ?_
    exact E_iret rfl rfl, (by simp only [List.length_set]; rfl), (by simp only [List.length_set]; rfl), ((ab_szs rfl).trans ((ab_szs rfl).trans rfl)), fun _ => rfl⟩
theorem f_copy_11 (a3 a4 a5 : Int32) : p1_P 3 78 2 137 [.ref 0, .int 1, .int 0, .int a3, .int a4, .int a5] [.ref 65, .int 1, .int 0, .int a3, .int a4, .int a5] :=
  ⟨(-3), (w0.set 48 (.inl [0, 0, 0, 1, 0, 0, 0, 0])), ((w0.set 48 (.inl [0, 0, 0, 1, 0, 0, 0, 0])).set 66 (.inl [0, 0, 0, 1, 0, 0, 0, 0])), by
    refine Ef.in (md := mX5_copy) (L := [some (.ref 0), some (.int 1), some (.int 0), some (.int a3), some (.int a4), some (.int a5), none, none]) rfl (Nat.le_of_ble_eq_true rfl) rfl ?_
    refine E_iload_n rfl rfl ?_
    refine E_callS (v := some (.int 1)) (As := [.int 1]) (r0 := []) (cs2 := w0) rfl rfl rfl (Nat.le_of_ble_eq_true rfl) rfl c12_X5_isShelf (by decide) rfl ?_
    refine E_if (t := 14) (b := false) rfl rfl (by decide) ?_
    refine E_iload_n rfl rfl ?_
    refine E_callS (v := some (.int 1)) (As := [.int 0]) (r0 := []) (cs2 := w0) rfl rfl rfl (Nat.le_of_ble_eq_true rfl) rfl c10_X5_isShelf (by decide) rfl ?_
    refine E_if (t := 20) (b := true) rfl rfl (by decide) ?_
    refine E_aload_n rfl rfl ?_
    refine E_getfield (v := .ref 31) rfl rfl rfl (by decide) rfl ?_
    refine E_iload_n rfl rfl ?_
    refine E_aaload (b := 51) (j := 1) rfl rfl (by decide) (by decide) rfl ?_
    refine E_astore (L2 := [some (.ref 0), some (.int 1), some (.int 0), some (.int a3), some (.int a4), some (.int a5), some (.ref 51), none]) rfl rfl ?_
    refine E_aload_n rfl rfl ?_
    refine E_getfield (v := .ref 31) rfl rfl rfl (by decide) rfl ?_
    refine E_iload_n rfl rfl ?_
    refine E_aaload (b := 49) (j := 0) rfl rfl (by decide) (by decide) rfl ?_
    refine E_astore (L2 := [some (.ref 0), some (.int 1), some (.int 0), some (.int a3), some (.int a4), some (.int a5), some (.ref 51), some (.ref 49)]) rfl rfl ?_
    refine E_aload rfl rfl ?_
    refine E_callV (v := some (.int 0)) (As := [.ref 51]) (r0 := []) (cs2 := w0) rfl rfl rfl (Nat.le_of_ble_eq_true rfl) rfl rfl c37_X3_isOtherThanRow (by decide) rfl ?_
    refine E_if (t := 62) (b := false) rfl rfl (by decide) ?_
    refine E_aload rfl rfl ?_
    refine E_callV (v := some (.int 0)) (As := [.ref 49]) (r0 := []) (cs2 := w0) rfl rfl rfl (Nat.le_of_ble_eq_true rfl) rfl rfl c30_X3_isOtherThanRow (by decide) rfl ?_
    refine E_if (t := 62) (b := false) rfl rfl (by decide) ?_
    refine E_aload rfl rfl ?_
    refine E_aload rfl rfl ?_
    refine E_callV (v := some (.int 0)) (As := [.ref 51, .ref 49]) (r0 := []) (cs2 := w0) rfl rfl rfl (Nat.le_of_ble_eq_true rfl) rfl rfl c72_X3_isOfOtherSort (by decide) rfl ?_
    refine E_if (t := 68) (b := true) rfl rfl (by decide) ?_
    refine E_aload rfl rfl ?_
    refine E_callV (v := some (.int 1)) (As := [.ref 51]) (r0 := []) (cs2 := w0) rfl rfl rfl (Nat.le_of_ble_eq_true rfl) rfl rfl c38_X3_isEmpty (by decide) rfl ?_
    refine E_if (t := 84) (b := true) rfl rfl (by decide) ?_
    refine E_aload_n rfl rfl ?_
    refine E_iconst (x := 3) rfl (by decide) ?_
    refine E_callV (v := some (.int (-3))) (As := [.ref 0, .int 3]) (r0 := []) (cs2 := (w0.set 48 (.inl [0, 0, 0, 1, 0, 0, 0, 0]))) rfl rfl rfl (Nat.le_of_ble_eq_true rfl) rfl rfl c32_X5_refuse (by decide) (by simp only [List.length_set]) ?_
    exact E_iret rfl rfl, by
    refine Ef.in (md := mX6_copy) (L := [some (.ref 65), some (.int 1), some (.int 0), some (.int a3), some (.int a4), some (.int a5), none]) rfl (Nat.le_of_ble_eq_true rfl) rfl ?_
    refine E_aload_n rfl rfl ?_
    refine E_iload_n rfl rfl ?_
    refine E_callV (v := some (.int 1)) (As := [.ref 65, .int 1]) (r0 := []) (cs2 := (w0.set 48 (.inl [0, 0, 0, 1, 0, 0, 0, 0]))) rfl rfl rfl (Nat.le_of_ble_eq_true rfl) rfl rfl c39_X6_isShelf (by decide) rfl ?_
    refine E_if (t := 16) (b := false) rfl rfl (by decide) ?_
    refine E_aload_n rfl rfl ?_
    refine E_iload_n rfl rfl ?_
    refine E_callV (v := some (.int 1)) (As := [.ref 65, .int 0]) (r0 := []) (cs2 := (w0.set 48 (.inl [0, 0, 0, 1, 0, 0, 0, 0]))) rfl rfl rfl (Nat.le_of_ble_eq_true rfl) rfl rfl c34_X6_isShelf (by decide) rfl ?_
    refine E_if (t := 22) (b := true) rfl rfl (by decide) ?_
    refine E_aload_n rfl rfl ?_
    refine E_getfield (v := .ref 76) rfl rfl rfl (by decide) rfl ?_
    refine E_iload_n rfl rfl ?_
    refine E_iaload (x := 0) (j := 1) rfl rfl (by decide) (by decide) rfl ?_
    refine E_iconst (x := 2) rfl (by decide) ?_
    refine E_ic (t := 77) (b := false) rfl rfl (by decide) ?_
    refine E_aload_n rfl rfl ?_
    refine E_getfield (v := .ref 76) rfl rfl rfl (by decide) rfl ?_
    refine E_iload_n rfl rfl ?_
    refine E_iaload (x := 0) (j := 0) rfl rfl (by decide) (by decide) rfl ?_
    refine E_iconst (x := 2) rfl (by decide) ?_
    refine E_ic (t := 77) (b := false) rfl rfl (by decide) ?_
    refine E_aload_n rfl rfl ?_
    refine E_getfield (v := .ref 76) rfl rfl rfl (by decide) rfl ?_
    refine E_iload_n rfl rfl ?_
    refine E_iaload (x := 0) (j := 1) rfl rfl (by decide) (by decide) rfl ?_
    refine E_iconst (x := 1) rfl (by decide) ?_
    refine E_ic (t := 84) (b := true) rfl rfl (by decide) ?_
    refine E_aload_n rfl rfl ?_
    refine E_getfield (v := .ref 76) rfl rfl rfl (by decide) rfl ?_
    refine E_iload_n rfl rfl ?_
    refine E_iaload (x := 0) (j := 1) rfl rfl (by decide) (by decide) rfl ?_
    refine E_if (t := 102) (b := true) rfl rfl (by decide) ?_
    refine E_aload_n rfl rfl ?_
    refine E_bipush (x := (-3)) rfl (by decide) ?_
    refine E_callV (v := some (.int (-3))) (As := [.ref 65, .int (-3)]) (r0 := []) (cs2 := ((w0.set 48 (.inl [0, 0, 0, 1, 0, 0, 0, 0])).set 66 (.inl [0, 0, 0, 1, 0, 0, 0, 0]))) rfl rfl rfl (Nat.le_of_ble_eq_true rfl) rfl rfl c35_X6_no (by decide) (by simp only [List.length_set]) ?_
    exact E_iret rfl rfl, (by simp only [List.length_set]; rfl), (by simp only [List.length_set]; rfl), ((ab_szs rfl).trans ((ab_szs rfl).trans rfl)), fun _ => rfl⟩
theorem f_copy_12 (a3 a4 a5 : Int32) : p1_P 3 78 2 137 [.ref 0, .int 1, .int 1, .int a3, .int a4, .int a5] [.ref 65, .int 1, .int 1, .int a3, .int a4, .int a5] :=
  ⟨(-3), (w0.set 48 (.inl [0, 0, 0, 1, 0, 0, 0, 0])), ((w0.set 48 (.inl [0, 0, 0, 1, 0, 0, 0, 0])).set 66 (.inl [0, 0, 0, 1, 0, 0, 0, 0])), by
    refine Ef.in (md := mX5_copy) (L := [some (.ref 0), some (.int 1), some (.int 1), some (.int a3), some (.int a4), some (.int a5), none, none]) rfl (Nat.le_of_ble_eq_true rfl) rfl ?_
    refine E_iload_n rfl rfl ?_
    refine E_callS (v := some (.int 1)) (As := [.int 1]) (r0 := []) (cs2 := w0) rfl rfl rfl (Nat.le_of_ble_eq_true rfl) rfl c12_X5_isShelf (by decide) rfl ?_
    refine E_if (t := 14) (b := false) rfl rfl (by decide) ?_
    refine E_iload_n rfl rfl ?_
    refine E_callS (v := some (.int 1)) (As := [.int 1]) (r0 := []) (cs2 := w0) rfl rfl rfl (Nat.le_of_ble_eq_true rfl) rfl c12_X5_isShelf (by decide) rfl ?_
    refine E_if (t := 20) (b := true) rfl rfl (by decide) ?_
    refine E_aload_n rfl rfl ?_
    refine E_getfield (v := .ref 31) rfl rfl rfl (by decide) rfl ?_
    refine E_iload_n rfl rfl ?_
    refine E_aaload (b := 51) (j := 1) rfl rfl (by decide) (by decide) rfl ?_
    refine E_astore (L2 := [some (.ref 0), some (.int 1), some (.int 1), some (.int a3), some (.int a4), some (.int a5), some (.ref 51), none]) rfl rfl ?_
    refine E_aload_n rfl rfl ?_
    refine E_getfield (v := .ref 31) rfl rfl rfl (by decide) rfl ?_
    refine E_iload_n rfl rfl ?_
    refine E_aaload (b := 51) (j := 1) rfl rfl (by decide) (by decide) rfl ?_
    refine E_astore (L2 := [some (.ref 0), some (.int 1), some (.int 1), some (.int a3), some (.int a4), some (.int a5), some (.ref 51), some (.ref 51)]) rfl rfl ?_
    refine E_aload rfl rfl ?_
    refine E_callV (v := some (.int 0)) (As := [.ref 51]) (r0 := []) (cs2 := w0) rfl rfl rfl (Nat.le_of_ble_eq_true rfl) rfl rfl c37_X3_isOtherThanRow (by decide) rfl ?_
    refine E_if (t := 62) (b := false) rfl rfl (by decide) ?_
    refine E_aload rfl rfl ?_
    refine E_callV (v := some (.int 0)) (As := [.ref 51]) (r0 := []) (cs2 := w0) rfl rfl rfl (Nat.le_of_ble_eq_true rfl) rfl rfl c37_X3_isOtherThanRow (by decide) rfl ?_
    refine E_if (t := 62) (b := false) rfl rfl (by decide) ?_
    refine E_aload rfl rfl ?_
    refine E_aload rfl rfl ?_
    refine E_callV (v := some (.int 0)) (As := [.ref 51, .ref 51]) (r0 := []) (cs2 := w0) rfl rfl rfl (Nat.le_of_ble_eq_true rfl) rfl rfl c73_X3_isOfOtherSort (by decide) rfl ?_
    refine E_if (t := 68) (b := true) rfl rfl (by decide) ?_
    refine E_aload rfl rfl ?_
    refine E_callV (v := some (.int 1)) (As := [.ref 51]) (r0 := []) (cs2 := w0) rfl rfl rfl (Nat.le_of_ble_eq_true rfl) rfl rfl c38_X3_isEmpty (by decide) rfl ?_
    refine E_if (t := 84) (b := true) rfl rfl (by decide) ?_
    refine E_aload_n rfl rfl ?_
    refine E_iconst (x := 3) rfl (by decide) ?_
    refine E_callV (v := some (.int (-3))) (As := [.ref 0, .int 3]) (r0 := []) (cs2 := (w0.set 48 (.inl [0, 0, 0, 1, 0, 0, 0, 0]))) rfl rfl rfl (Nat.le_of_ble_eq_true rfl) rfl rfl c32_X5_refuse (by decide) (by simp only [List.length_set]) ?_
    exact E_iret rfl rfl, by
    refine Ef.in (md := mX6_copy) (L := [some (.ref 65), some (.int 1), some (.int 1), some (.int a3), some (.int a4), some (.int a5), none]) rfl (Nat.le_of_ble_eq_true rfl) rfl ?_
    refine E_aload_n rfl rfl ?_
    refine E_iload_n rfl rfl ?_
    refine E_callV (v := some (.int 1)) (As := [.ref 65, .int 1]) (r0 := []) (cs2 := (w0.set 48 (.inl [0, 0, 0, 1, 0, 0, 0, 0]))) rfl rfl rfl (Nat.le_of_ble_eq_true rfl) rfl rfl c39_X6_isShelf (by decide) rfl ?_
    refine E_if (t := 16) (b := false) rfl rfl (by decide) ?_
    refine E_aload_n rfl rfl ?_
    refine E_iload_n rfl rfl ?_
    refine E_callV (v := some (.int 1)) (As := [.ref 65, .int 1]) (r0 := []) (cs2 := (w0.set 48 (.inl [0, 0, 0, 1, 0, 0, 0, 0]))) rfl rfl rfl (Nat.le_of_ble_eq_true rfl) rfl rfl c39_X6_isShelf (by decide) rfl ?_
    refine E_if (t := 22) (b := true) rfl rfl (by decide) ?_
    refine E_aload_n rfl rfl ?_
    refine E_getfield (v := .ref 76) rfl rfl rfl (by decide) rfl ?_
    refine E_iload_n rfl rfl ?_
    refine E_iaload (x := 0) (j := 1) rfl rfl (by decide) (by decide) rfl ?_
    refine E_iconst (x := 2) rfl (by decide) ?_
    refine E_ic (t := 77) (b := false) rfl rfl (by decide) ?_
    refine E_aload_n rfl rfl ?_
    refine E_getfield (v := .ref 76) rfl rfl rfl (by decide) rfl ?_
    refine E_iload_n rfl rfl ?_
    refine E_iaload (x := 0) (j := 1) rfl rfl (by decide) (by decide) rfl ?_
    refine E_iconst (x := 2) rfl (by decide) ?_
    refine E_ic (t := 77) (b := false) rfl rfl (by decide) ?_
    refine E_aload_n rfl rfl ?_
    refine E_getfield (v := .ref 76) rfl rfl rfl (by decide) rfl ?_
    refine E_iload_n rfl rfl ?_
    refine E_iaload (x := 0) (j := 1) rfl rfl (by decide) (by decide) rfl ?_
    refine E_iconst (x := 1) rfl (by decide) ?_
    refine E_ic (t := 84) (b := true) rfl rfl (by decide) ?_
    refine E_aload_n rfl rfl ?_
    refine E_getfield (v := .ref 76) rfl rfl rfl (by decide) rfl ?_
    refine E_iload_n rfl rfl ?_
    refine E_iaload (x := 0) (j := 1) rfl rfl (by decide) (by decide) rfl ?_
    refine E_if (t := 102) (b := true) rfl rfl (by decide) ?_
    refine E_aload_n rfl rfl ?_
    refine E_bipush (x := (-3)) rfl (by decide) ?_
    refine E_callV (v := some (.int (-3))) (As := [.ref 65, .int (-3)]) (r0 := []) (cs2 := ((w0.set 48 (.inl [0, 0, 0, 1, 0, 0, 0, 0])).set 66 (.inl [0, 0, 0, 1, 0, 0, 0, 0]))) rfl rfl rfl (Nat.le_of_ble_eq_true rfl) rfl rfl c35_X6_no (by decide) (by simp only [List.length_set]) ?_
    exact E_iret rfl rfl, (by simp only [List.length_set]; rfl), (by simp only [List.length_set]; rfl), ((ab_szs rfl).trans ((ab_szs rfl).trans rfl)), fun _ => rfl⟩
theorem f_copy_13 (a3 a4 a5 : Int32) : p1_P 3 78 2 137 [.ref 0, .int 1, .int 2, .int a3, .int a4, .int a5] [.ref 65, .int 1, .int 2, .int a3, .int a4, .int a5] :=
  ⟨(-3), (w0.set 48 (.inl [0, 0, 0, 1, 0, 0, 0, 0])), ((w0.set 48 (.inl [0, 0, 0, 1, 0, 0, 0, 0])).set 66 (.inl [0, 0, 0, 1, 0, 0, 0, 0])), by
    refine Ef.in (md := mX5_copy) (L := [some (.ref 0), some (.int 1), some (.int 2), some (.int a3), some (.int a4), some (.int a5), none, none]) rfl (Nat.le_of_ble_eq_true rfl) rfl ?_
    refine E_iload_n rfl rfl ?_
    refine E_callS (v := some (.int 1)) (As := [.int 1]) (r0 := []) (cs2 := w0) rfl rfl rfl (Nat.le_of_ble_eq_true rfl) rfl c12_X5_isShelf (by decide) rfl ?_
    refine E_if (t := 14) (b := false) rfl rfl (by decide) ?_
    refine E_iload_n rfl rfl ?_
    refine E_callS (v := some (.int 1)) (As := [.int 2]) (r0 := []) (cs2 := w0) rfl rfl rfl (Nat.le_of_ble_eq_true rfl) rfl c14_X5_isShelf (by decide) rfl ?_
    refine E_if (t := 20) (b := true) rfl rfl (by decide) ?_
    refine E_aload_n rfl rfl ?_
    refine E_getfield (v := .ref 31) rfl rfl rfl (by decide) rfl ?_
    refine E_iload_n rfl rfl ?_
    refine E_aaload (b := 51) (j := 1) rfl rfl (by decide) (by decide) rfl ?_
    refine E_astore (L2 := [some (.ref 0), some (.int 1), some (.int 2), some (.int a3), some (.int a4), some (.int a5), some (.ref 51), none]) rfl rfl ?_
    refine E_aload_n rfl rfl ?_
    refine E_getfield (v := .ref 31) rfl rfl rfl (by decide) rfl ?_
    refine E_iload_n rfl rfl ?_
    refine E_aaload (b := 53) (j := 2) rfl rfl (by decide) (by decide) rfl ?_
    refine E_astore (L2 := [some (.ref 0), some (.int 1), some (.int 2), some (.int a3), some (.int a4), some (.int a5), some (.ref 51), some (.ref 53)]) rfl rfl ?_
    refine E_aload rfl rfl ?_
    refine E_callV (v := some (.int 0)) (As := [.ref 51]) (r0 := []) (cs2 := w0) rfl rfl rfl (Nat.le_of_ble_eq_true rfl) rfl rfl c37_X3_isOtherThanRow (by decide) rfl ?_
    refine E_if (t := 62) (b := false) rfl rfl (by decide) ?_
    refine E_aload rfl rfl ?_
    refine E_callV (v := some (.int 0)) (As := [.ref 53]) (r0 := []) (cs2 := w0) rfl rfl rfl (Nat.le_of_ble_eq_true rfl) rfl rfl c41_X3_isOtherThanRow (by decide) rfl ?_
    refine E_if (t := 62) (b := false) rfl rfl (by decide) ?_
    refine E_aload rfl rfl ?_
    refine E_aload rfl rfl ?_
    refine E_callV (v := some (.int 0)) (As := [.ref 51, .ref 53]) (r0 := []) (cs2 := w0) rfl rfl rfl (Nat.le_of_ble_eq_true rfl) rfl rfl c74_X3_isOfOtherSort (by decide) rfl ?_
    refine E_if (t := 68) (b := true) rfl rfl (by decide) ?_
    refine E_aload rfl rfl ?_
    refine E_callV (v := some (.int 1)) (As := [.ref 51]) (r0 := []) (cs2 := w0) rfl rfl rfl (Nat.le_of_ble_eq_true rfl) rfl rfl c38_X3_isEmpty (by decide) rfl ?_
    refine E_if (t := 84) (b := true) rfl rfl (by decide) ?_
    refine E_aload_n rfl rfl ?_
    refine E_iconst (x := 3) rfl (by decide) ?_
    refine E_callV (v := some (.int (-3))) (As := [.ref 0, .int 3]) (r0 := []) (cs2 := (w0.set 48 (.inl [0, 0, 0, 1, 0, 0, 0, 0]))) rfl rfl rfl (Nat.le_of_ble_eq_true rfl) rfl rfl c32_X5_refuse (by decide) (by simp only [List.length_set]) ?_
    exact E_iret rfl rfl, by
    refine Ef.in (md := mX6_copy) (L := [some (.ref 65), some (.int 1), some (.int 2), some (.int a3), some (.int a4), some (.int a5), none]) rfl (Nat.le_of_ble_eq_true rfl) rfl ?_
    refine E_aload_n rfl rfl ?_
    refine E_iload_n rfl rfl ?_
    refine E_callV (v := some (.int 1)) (As := [.ref 65, .int 1]) (r0 := []) (cs2 := (w0.set 48 (.inl [0, 0, 0, 1, 0, 0, 0, 0]))) rfl rfl rfl (Nat.le_of_ble_eq_true rfl) rfl rfl c39_X6_isShelf (by decide) rfl ?_
    refine E_if (t := 16) (b := false) rfl rfl (by decide) ?_
    refine E_aload_n rfl rfl ?_
    refine E_iload_n rfl rfl ?_
    refine E_callV (v := some (.int 1)) (As := [.ref 65, .int 2]) (r0 := []) (cs2 := (w0.set 48 (.inl [0, 0, 0, 1, 0, 0, 0, 0]))) rfl rfl rfl (Nat.le_of_ble_eq_true rfl) rfl rfl c43_X6_isShelf (by decide) rfl ?_
    refine E_if (t := 22) (b := true) rfl rfl (by decide) ?_
    refine E_aload_n rfl rfl ?_
    refine E_getfield (v := .ref 76) rfl rfl rfl (by decide) rfl ?_
    refine E_iload_n rfl rfl ?_
    refine E_iaload (x := 0) (j := 1) rfl rfl (by decide) (by decide) rfl ?_
    refine E_iconst (x := 2) rfl (by decide) ?_
    refine E_ic (t := 77) (b := false) rfl rfl (by decide) ?_
    refine E_aload_n rfl rfl ?_
    refine E_getfield (v := .ref 76) rfl rfl rfl (by decide) rfl ?_
    refine E_iload_n rfl rfl ?_
    refine E_iaload (x := 0) (j := 2) rfl rfl (by decide) (by decide) rfl ?_
    refine E_iconst (x := 2) rfl (by decide) ?_
    refine E_ic (t := 77) (b := false) rfl rfl (by decide) ?_
    refine E_aload_n rfl rfl ?_
    refine E_getfield (v := .ref 76) rfl rfl rfl (by decide) rfl ?_
    refine E_iload_n rfl rfl ?_
    refine E_iaload (x := 0) (j := 1) rfl rfl (by decide) (by decide) rfl ?_
    refine E_iconst (x := 1) rfl (by decide) ?_
    refine E_ic (t := 84) (b := true) rfl rfl (by decide) ?_
    refine E_aload_n rfl rfl ?_
    refine E_getfield (v := .ref 76) rfl rfl rfl (by decide) rfl ?_
    refine E_iload_n rfl rfl ?_
    refine E_iaload (x := 0) (j := 1) rfl rfl (by decide) (by decide) rfl ?_
    refine E_if (t := 102) (b := true) rfl rfl (by decide) ?_
    refine E_aload_n rfl rfl ?_
    refine E_bipush (x := (-3)) rfl (by decide) ?_
    refine E_callV (v := some (.int (-3))) (As := [.ref 65, .int (-3)]) (r0 := []) (cs2 := ((w0.set 48 (.inl [0, 0, 0, 1, 0, 0, 0, 0])).set 66 (.inl [0, 0, 0, 1, 0, 0, 0, 0]))) rfl rfl rfl (Nat.le_of_ble_eq_true rfl) rfl rfl c35_X6_no (by decide) (by simp only [List.length_set]) ?_
    exact E_iret rfl rfl, (by simp only [List.length_set]; rfl), (by simp only [List.length_set]; rfl), ((ab_szs rfl).trans ((ab_szs rfl).trans rfl)), fun _ => rfl⟩
theorem f_copy_14 (a3 a4 a5 : Int32) : p1_P 3 78 2 137 [.ref 0, .int 1, .int 3, .int a3, .int a4, .int a5] [.ref 65, .int 1, .int 3, .int a3, .int a4, .int a5] :=
  ⟨(-3), (w0.set 48 (.inl [0, 0, 0, 1, 0, 0, 0, 0])), ((w0.set 48 (.inl [0, 0, 0, 1, 0, 0, 0, 0])).set 66 (.inl [0, 0, 0, 1, 0, 0, 0, 0])), by
    refine Ef.in (md := mX5_copy) (L := [some (.ref 0), some (.int 1), some (.int 3), some (.int a3), some (.int a4), some (.int a5), none, none]) rfl (Nat.le_of_ble_eq_true rfl) rfl ?_
    refine E_iload_n rfl rfl ?_
    refine E_callS (v := some (.int 1)) (As := [.int 1]) (r0 := []) (cs2 := w0) rfl rfl rfl (Nat.le_of_ble_eq_true rfl) rfl c12_X5_isShelf (by decide) rfl ?_
    refine E_if (t := 14) (b := false) rfl rfl (by decide) ?_
    refine E_iload_n rfl rfl ?_
    refine E_callS (v := some (.int 1)) (As := [.int 3]) (r0 := []) (cs2 := w0) rfl rfl rfl (Nat.le_of_ble_eq_true rfl) rfl c16_X5_isShelf (by decide) rfl ?_
    refine E_if (t := 20) (b := true) rfl rfl (by decide) ?_
    refine E_aload_n rfl rfl ?_
    refine E_getfield (v := .ref 31) rfl rfl rfl (by decide) rfl ?_
    refine E_iload_n rfl rfl ?_
    refine E_aaload (b := 51) (j := 1) rfl rfl (by decide) (by decide) rfl ?_
    refine E_astore (L2 := [some (.ref 0), some (.int 1), some (.int 3), some (.int a3), some (.int a4), some (.int a5), some (.ref 51), none]) rfl rfl ?_
    refine E_aload_n rfl rfl ?_
    refine E_getfield (v := .ref 31) rfl rfl rfl (by decide) rfl ?_
    refine E_iload_n rfl rfl ?_
    refine E_aaload (b := 55) (j := 3) rfl rfl (by decide) (by decide) rfl ?_
    refine E_astore (L2 := [some (.ref 0), some (.int 1), some (.int 3), some (.int a3), some (.int a4), some (.int a5), some (.ref 51), some (.ref 55)]) rfl rfl ?_
    refine E_aload rfl rfl ?_
    refine E_callV (v := some (.int 0)) (As := [.ref 51]) (r0 := []) (cs2 := w0) rfl rfl rfl (Nat.le_of_ble_eq_true rfl) rfl rfl c37_X3_isOtherThanRow (by decide) rfl ?_
    refine E_if (t := 62) (b := false) rfl rfl (by decide) ?_
    refine E_aload rfl rfl ?_
    refine E_callV (v := some (.int 0)) (As := [.ref 55]) (r0 := []) (cs2 := w0) rfl rfl rfl (Nat.le_of_ble_eq_true rfl) rfl rfl c45_X3_isOtherThanRow (by decide) rfl ?_
    refine E_if (t := 62) (b := false) rfl rfl (by decide) ?_
    refine E_aload rfl rfl ?_
    refine E_aload rfl rfl ?_
    refine E_callV (v := some (.int 0)) (As := [.ref 51, .ref 55]) (r0 := []) (cs2 := w0) rfl rfl rfl (Nat.le_of_ble_eq_true rfl) rfl rfl c75_X3_isOfOtherSort (by decide) rfl ?_
    refine E_if (t := 68) (b := true) rfl rfl (by decide) ?_
    refine E_aload rfl rfl ?_
    refine E_callV (v := some (.int 1)) (As := [.ref 51]) (r0 := []) (cs2 := w0) rfl rfl rfl (Nat.le_of_ble_eq_true rfl) rfl rfl c38_X3_isEmpty (by decide) rfl ?_
    refine E_if (t := 84) (b := true) rfl rfl (by decide) ?_
    refine E_aload_n rfl rfl ?_
    refine E_iconst (x := 3) rfl (by decide) ?_
    refine E_callV (v := some (.int (-3))) (As := [.ref 0, .int 3]) (r0 := []) (cs2 := (w0.set 48 (.inl [0, 0, 0, 1, 0, 0, 0, 0]))) rfl rfl rfl (Nat.le_of_ble_eq_true rfl) rfl rfl c32_X5_refuse (by decide) (by simp only [List.length_set]) ?_
    exact E_iret rfl rfl, by
    refine Ef.in (md := mX6_copy) (L := [some (.ref 65), some (.int 1), some (.int 3), some (.int a3), some (.int a4), some (.int a5), none]) rfl (Nat.le_of_ble_eq_true rfl) rfl ?_
    refine E_aload_n rfl rfl ?_
    refine E_iload_n rfl rfl ?_
    refine E_callV (v := some (.int 1)) (As := [.ref 65, .int 1]) (r0 := []) (cs2 := (w0.set 48 (.inl [0, 0, 0, 1, 0, 0, 0, 0]))) rfl rfl rfl (Nat.le_of_ble_eq_true rfl) rfl rfl c39_X6_isShelf (by decide) rfl ?_
    refine E_if (t := 16) (b := false) rfl rfl (by decide) ?_
    refine E_aload_n rfl rfl ?_
    refine E_iload_n rfl rfl ?_
    refine E_callV (v := some (.int 1)) (As := [.ref 65, .int 3]) (r0 := []) (cs2 := (w0.set 48 (.inl [0, 0, 0, 1, 0, 0, 0, 0]))) rfl rfl rfl (Nat.le_of_ble_eq_true rfl) rfl rfl c47_X6_isShelf (by decide) rfl ?_
    refine E_if (t := 22) (b := true) rfl rfl (by decide) ?_
    refine E_aload_n rfl rfl ?_
    refine E_getfield (v := .ref 76) rfl rfl rfl (by decide) rfl ?_
    refine E_iload_n rfl rfl ?_
    refine E_iaload (x := 0) (j := 1) rfl rfl (by decide) (by decide) rfl ?_
    refine E_iconst (x := 2) rfl (by decide) ?_
    refine E_ic (t := 77) (b := false) rfl rfl (by decide) ?_
    refine E_aload_n rfl rfl ?_
    refine E_getfield (v := .ref 76) rfl rfl rfl (by decide) rfl ?_
    refine E_iload_n rfl rfl ?_
    refine E_iaload (x := 0) (j := 3) rfl rfl (by decide) (by decide) rfl ?_
    refine E_iconst (x := 2) rfl (by decide) ?_
    refine E_ic (t := 77) (b := false) rfl rfl (by decide) ?_
    refine E_aload_n rfl rfl ?_
    refine E_getfield (v := .ref 76) rfl rfl rfl (by decide) rfl ?_
    refine E_iload_n rfl rfl ?_
    refine E_iaload (x := 0) (j := 1) rfl rfl (by decide) (by decide) rfl ?_
    refine E_iconst (x := 1) rfl (by decide) ?_
    refine E_ic (t := 84) (b := true) rfl rfl (by decide) ?_
    refine E_aload_n rfl rfl ?_
    refine E_getfield (v := .ref 76) rfl rfl rfl (by decide) rfl ?_
    refine E_iload_n rfl rfl ?_
    refine E_iaload (x := 0) (j := 1) rfl rfl (by decide) (by decide) rfl ?_
    refine E_if (t := 102) (b := true) rfl rfl (by decide) ?_
    refine E_aload_n rfl rfl ?_
    refine E_bipush (x := (-3)) rfl (by decide) ?_
    refine E_callV (v := some (.int (-3))) (As := [.ref 65, .int (-3)]) (r0 := []) (cs2 := ((w0.set 48 (.inl [0, 0, 0, 1, 0, 0, 0, 0])).set 66 (.inl [0, 0, 0, 1, 0, 0, 0, 0]))) rfl rfl rfl (Nat.le_of_ble_eq_true rfl) rfl rfl c35_X6_no (by decide) (by simp only [List.length_set]) ?_
    exact E_iret rfl rfl, (by simp only [List.length_set]; rfl), (by simp only [List.length_set]; rfl), ((ab_szs rfl).trans ((ab_szs rfl).trans rfl)), fun _ => rfl⟩
theorem f_copy_15 (a3 a4 a5 : Int32) : p1_P 3 78 2 137 [.ref 0, .int 1, .int 4, .int a3, .int a4, .int a5] [.ref 65, .int 1, .int 4, .int a3, .int a4, .int a5] :=
  ⟨(-3), (w0.set 48 (.inl [0, 0, 0, 1, 0, 0, 0, 0])), ((w0.set 48 (.inl [0, 0, 0, 1, 0, 0, 0, 0])).set 66 (.inl [0, 0, 0, 1, 0, 0, 0, 0])), by
    refine Ef.in (md := mX5_copy) (L := [some (.ref 0), some (.int 1), some (.int 4), some (.int a3), some (.int a4), some (.int a5), none, none]) rfl (Nat.le_of_ble_eq_true rfl) rfl ?_
    refine E_iload_n rfl rfl ?_
    refine E_callS (v := some (.int 1)) (As := [.int 1]) (r0 := []) (cs2 := w0) rfl rfl rfl (Nat.le_of_ble_eq_true rfl) rfl c12_X5_isShelf (by decide) rfl ?_
    refine E_if (t := 14) (b := false) rfl rfl (by decide) ?_
    refine E_iload_n rfl rfl ?_
    refine E_callS (v := some (.int 1)) (As := [.int 4]) (r0 := []) (cs2 := w0) rfl rfl rfl (Nat.le_of_ble_eq_true rfl) rfl c18_X5_isShelf (by decide) rfl ?_
    refine E_if (t := 20) (b := true) rfl rfl (by decide) ?_
    refine E_aload_n rfl rfl ?_
    refine E_getfield (v := .ref 31) rfl rfl rfl (by decide) rfl ?_
    refine E_iload_n rfl rfl ?_
    refine E_aaload (b := 51) (j := 1) rfl rfl (by decide) (by decide) rfl ?_
    refine E_astore (L2 := [some (.ref 0), some (.int 1), some (.int 4), some (.int a3), some (.int a4), some (.int a5), some (.ref 51), none]) rfl rfl ?_
    refine E_aload_n rfl rfl ?_
    refine E_getfield (v := .ref 31) rfl rfl rfl (by decide) rfl ?_
    refine E_iload_n rfl rfl ?_
    refine E_aaload (b := 57) (j := 4) rfl rfl (by decide) (by decide) rfl ?_
    refine E_astore (L2 := [some (.ref 0), some (.int 1), some (.int 4), some (.int a3), some (.int a4), some (.int a5), some (.ref 51), some (.ref 57)]) rfl rfl ?_
    refine E_aload rfl rfl ?_
    refine E_callV (v := some (.int 0)) (As := [.ref 51]) (r0 := []) (cs2 := w0) rfl rfl rfl (Nat.le_of_ble_eq_true rfl) rfl rfl c37_X3_isOtherThanRow (by decide) rfl ?_
    refine E_if (t := 62) (b := false) rfl rfl (by decide) ?_
    refine E_aload rfl rfl ?_
    refine E_callV (v := some (.int 0)) (As := [.ref 57]) (r0 := []) (cs2 := w0) rfl rfl rfl (Nat.le_of_ble_eq_true rfl) rfl rfl c49_X3_isOtherThanRow (by decide) rfl ?_
    refine E_if (t := 62) (b := false) rfl rfl (by decide) ?_
    refine E_aload rfl rfl ?_
    refine E_aload rfl rfl ?_
    refine E_callV (v := some (.int 0)) (As := [.ref 51, .ref 57]) (r0 := []) (cs2 := w0) rfl rfl rfl (Nat.le_of_ble_eq_true rfl) rfl rfl c76_X3_isOfOtherSort (by decide) rfl ?_
    refine E_if (t := 68) (b := true) rfl rfl (by decide) ?_
    refine E_aload rfl rfl ?_
    refine E_callV (v := some (.int 1)) (As := [.ref 51]) (r0 := []) (cs2 := w0) rfl rfl rfl (Nat.le_of_ble_eq_true rfl) rfl rfl c38_X3_isEmpty (by decide) rfl ?_
    refine E_if (t := 84) (b := true) rfl rfl (by decide) ?_
    refine E_aload_n rfl rfl ?_
    refine E_iconst (x := 3) rfl (by decide) ?_
    refine E_callV (v := some (.int (-3))) (As := [.ref 0, .int 3]) (r0 := []) (cs2 := (w0.set 48 (.inl [0, 0, 0, 1, 0, 0, 0, 0]))) rfl rfl rfl (Nat.le_of_ble_eq_true rfl) rfl rfl c32_X5_refuse (by decide) (by simp only [List.length_set]) ?_
    exact E_iret rfl rfl, by
    refine Ef.in (md := mX6_copy) (L := [some (.ref 65), some (.int 1), some (.int 4), some (.int a3), some (.int a4), some (.int a5), none]) rfl (Nat.le_of_ble_eq_true rfl) rfl ?_
    refine E_aload_n rfl rfl ?_
    refine E_iload_n rfl rfl ?_
    refine E_callV (v := some (.int 1)) (As := [.ref 65, .int 1]) (r0 := []) (cs2 := (w0.set 48 (.inl [0, 0, 0, 1, 0, 0, 0, 0]))) rfl rfl rfl (Nat.le_of_ble_eq_true rfl) rfl rfl c39_X6_isShelf (by decide) rfl ?_
    refine E_if (t := 16) (b := false) rfl rfl (by decide) ?_
    refine E_aload_n rfl rfl ?_
    refine E_iload_n rfl rfl ?_
    refine E_callV (v := some (.int 1)) (As := [.ref 65, .int 4]) (r0 := []) (cs2 := (w0.set 48 (.inl [0, 0, 0, 1, 0, 0, 0, 0]))) rfl rfl rfl (Nat.le_of_ble_eq_true rfl) rfl rfl c51_X6_isShelf (by decide) rfl ?_
    refine E_if (t := 22) (b := true) rfl rfl (by decide) ?_
    refine E_aload_n rfl rfl ?_
    refine E_getfield (v := .ref 76) rfl rfl rfl (by decide) rfl ?_
    refine E_iload_n rfl rfl ?_
    refine E_iaload (x := 0) (j := 1) rfl rfl (by decide) (by decide) rfl ?_
    refine E_iconst (x := 2) rfl (by decide) ?_
    refine E_ic (t := 77) (b := false) rfl rfl (by decide) ?_
    refine E_aload_n rfl rfl ?_
    refine E_getfield (v := .ref 76) rfl rfl rfl (by decide) rfl ?_
    refine E_iload_n rfl rfl ?_
    refine E_iaload (x := 0) (j := 4) rfl rfl (by decide) (by decide) rfl ?_
    refine E_iconst (x := 2) rfl (by decide) ?_
    refine E_ic (t := 77) (b := false) rfl rfl (by decide) ?_
    refine E_aload_n rfl rfl ?_
    refine E_getfield (v := .ref 76) rfl rfl rfl (by decide) rfl ?_
    refine E_iload_n rfl rfl ?_
    refine E_iaload (x := 0) (j := 1) rfl rfl (by decide) (by decide) rfl ?_
    refine E_iconst (x := 1) rfl (by decide) ?_
    refine E_ic (t := 84) (b := true) rfl rfl (by decide) ?_
    refine E_aload_n rfl rfl ?_
    refine E_getfield (v := .ref 76) rfl rfl rfl (by decide) rfl ?_
    refine E_iload_n rfl rfl ?_
    refine E_iaload (x := 0) (j := 1) rfl rfl (by decide) (by decide) rfl ?_
    refine E_if (t := 102) (b := true) rfl rfl (by decide) ?_
    refine E_aload_n rfl rfl ?_
    refine E_bipush (x := (-3)) rfl (by decide) ?_
    refine E_callV (v := some (.int (-3))) (As := [.ref 65, .int (-3)]) (r0 := []) (cs2 := ((w0.set 48 (.inl [0, 0, 0, 1, 0, 0, 0, 0])).set 66 (.inl [0, 0, 0, 1, 0, 0, 0, 0]))) rfl rfl rfl (Nat.le_of_ble_eq_true rfl) rfl rfl c35_X6_no (by decide) (by simp only [List.length_set]) ?_
    exact E_iret rfl rfl, (by simp only [List.length_set]; rfl), (by simp only [List.length_set]; rfl), ((ab_szs rfl).trans ((ab_szs rfl).trans rfl)), fun _ => rfl⟩
theorem f_copy_16 (a3 a4 a5 : Int32) : p1_P 3 78 2 137 [.ref 0, .int 1, .int 5, .int a3, .int a4, .int a5] [.ref 65, .int 1, .int 5, .int a3, .int a4, .int a5] :=
  ⟨(-3), (w0.set 48 (.inl [0, 0, 0, 1, 0, 0, 0, 0])), ((w0.set 48 (.inl [0, 0, 0, 1, 0, 0, 0, 0])).set 66 (.inl [0, 0, 0, 1, 0, 0, 0, 0])), by
    refine Ef.in (md := mX5_copy) (L := [some (.ref 0), some (.int 1), some (.int 5), some (.int a3), some (.int a4), some (.int a5), none, none]) rfl (Nat.le_of_ble_eq_true rfl) rfl ?_
    refine E_iload_n rfl rfl ?_
    refine E_callS (v := some (.int 1)) (As := [.int 1]) (r0 := []) (cs2 := w0) rfl rfl rfl (Nat.le_of_ble_eq_true rfl) rfl c12_X5_isShelf (by decide) rfl ?_
    refine E_if (t := 14) (b := false) rfl rfl (by decide) ?_
    refine E_iload_n rfl rfl ?_
    refine E_callS (v := some (.int 1)) (As := [.int 5]) (r0 := []) (cs2 := w0) rfl rfl rfl (Nat.le_of_ble_eq_true rfl) rfl c20_X5_isShelf (by decide) rfl ?_
    refine E_if (t := 20) (b := true) rfl rfl (by decide) ?_
    refine E_aload_n rfl rfl ?_
    refine E_getfield (v := .ref 31) rfl rfl rfl (by decide) rfl ?_
    refine E_iload_n rfl rfl ?_
    refine E_aaload (b := 51) (j := 1) rfl rfl (by decide) (by decide) rfl ?_
    refine E_astore (L2 := [some (.ref 0), some (.int 1), some (.int 5), some (.int a3), some (.int a4), some (.int a5), some (.ref 51), none]) rfl rfl ?_
    refine E_aload_n rfl rfl ?_
    refine E_getfield (v := .ref 31) rfl rfl rfl (by decide) rfl ?_
    refine E_iload_n rfl rfl ?_
    refine E_aaload (b := 59) (j := 5) rfl rfl (by decide) (by decide) rfl ?_
    refine E_astore (L2 := [some (.ref 0), some (.int 1), some (.int 5), some (.int a3), some (.int a4), some (.int a5), some (.ref 51), some (.ref 59)]) rfl rfl ?_
    refine E_aload rfl rfl ?_
    refine E_callV (v := some (.int 0)) (As := [.ref 51]) (r0 := []) (cs2 := w0) rfl rfl rfl (Nat.le_of_ble_eq_true rfl) rfl rfl c37_X3_isOtherThanRow (by decide) rfl ?_
    refine E_if (t := 62) (b := false) rfl rfl (by decide) ?_
    refine E_aload rfl rfl ?_
    refine E_callV (v := some (.int 0)) (As := [.ref 59]) (r0 := []) (cs2 := w0) rfl rfl rfl (Nat.le_of_ble_eq_true rfl) rfl rfl c53_X3_isOtherThanRow (by decide) rfl ?_
    refine E_if (t := 62) (b := false) rfl rfl (by decide) ?_
    refine E_aload rfl rfl ?_
    refine E_aload rfl rfl ?_
    refine E_callV (v := some (.int 0)) (As := [.ref 51, .ref 59]) (r0 := []) (cs2 := w0) rfl rfl rfl (Nat.le_of_ble_eq_true rfl) rfl rfl c77_X3_isOfOtherSort (by decide) rfl ?_
    refine E_if (t := 68) (b := true) rfl rfl (by decide) ?_
    refine E_aload rfl rfl ?_
    refine E_callV (v := some (.int 1)) (As := [.ref 51]) (r0 := []) (cs2 := w0) rfl rfl rfl (Nat.le_of_ble_eq_true rfl) rfl rfl c38_X3_isEmpty (by decide) rfl ?_
    refine E_if (t := 84) (b := true) rfl rfl (by decide) ?_
    refine E_aload_n rfl rfl ?_
    refine E_iconst (x := 3) rfl (by decide) ?_
    refine E_callV (v := some (.int (-3))) (As := [.ref 0, .int 3]) (r0 := []) (cs2 := (w0.set 48 (.inl [0, 0, 0, 1, 0, 0, 0, 0]))) rfl rfl rfl (Nat.le_of_ble_eq_true rfl) rfl rfl c32_X5_refuse (by decide) (by simp only [List.length_set]) ?_
    exact E_iret rfl rfl, by
    refine Ef.in (md := mX6_copy) (L := [some (.ref 65), some (.int 1), some (.int 5), some (.int a3), some (.int a4), some (.int a5), none]) rfl (Nat.le_of_ble_eq_true rfl) rfl ?_
    refine E_aload_n rfl rfl ?_
    refine E_iload_n rfl rfl ?_
    refine E_callV (v := some (.int 1)) (As := [.ref 65, .int 1]) (r0 := []) (cs2 := (w0.set 48 (.inl [0, 0, 0, 1, 0, 0, 0, 0]))) rfl rfl rfl (Nat.le_of_ble_eq_true rfl) rfl rfl c39_X6_isShelf (by decide) rfl ?_
    refine E_if (t := 16) (b := false) rfl rfl (by decide) ?_
    refine E_aload_n rfl rfl ?_
    refine E_iload_n rfl rfl ?_
    refine E_callV (v := some (.int 1)) (As := [.ref 65, .int 5]) (r0 := []) (cs2 := (w0.set 48 (.inl [0, 0, 0, 1, 0, 0, 0, 0]))) rfl rfl rfl (Nat.le_of_ble_eq_true rfl) rfl rfl c55_X6_isShelf (by decide) rfl ?_
    refine E_if (t := 22) (b := true) rfl rfl (by decide) ?_
    refine E_aload_n rfl rfl ?_
    refine E_getfield (v := .ref 76) rfl rfl rfl (by decide) rfl ?_
    refine E_iload_n rfl rfl ?_
    refine E_iaload (x := 0) (j := 1) rfl rfl (by decide) (by decide) rfl ?_
    refine E_iconst (x := 2) rfl (by decide) ?_
    refine E_ic (t := 77) (b := false) rfl rfl (by decide) ?_
    refine E_aload_n rfl rfl ?_
    refine E_getfield (v := .ref 76) rfl rfl rfl (by decide) rfl ?_
    refine E_iload_n rfl rfl ?_
    refine E_iaload (x := 0) (j := 5) rfl rfl (by decide) (by decide) rfl ?_
    refine E_iconst (x := 2) rfl (by decide) ?_
    refine E_ic (t := 77) (b := false) rfl rfl (by decide) ?_
    refine E_aload_n rfl rfl ?_
    refine E_getfield (v := .ref 76) rfl rfl rfl (by decide) rfl ?_
    refine E_iload_n rfl rfl ?_
    refine E_iaload (x := 0) (j := 1) rfl rfl (by decide) (by decide) rfl ?_
    refine E_iconst (x := 1) rfl (by decide) ?_
    refine E_ic (t := 84) (b := true) rfl rfl (by decide) ?_
    refine E_aload_n rfl rfl ?_
    refine E_getfield (v := .ref 76) rfl rfl rfl (by decide) rfl ?_
    refine E_iload_n rfl rfl ?_
    refine E_iaload (x := 0) (j := 1) rfl rfl (by decide) (by decide) rfl ?_
    refine E_if (t := 102) (b := true) rfl rfl (by decide) ?_
    refine E_aload_n rfl rfl ?_
    refine E_bipush (x := (-3)) rfl (by decide) ?_
    refine E_callV (v := some (.int (-3))) (As := [.ref 65, .int (-3)]) (r0 := []) (cs2 := ((w0.set 48 (.inl [0, 0, 0, 1, 0, 0, 0, 0])).set 66 (.inl [0, 0, 0, 1, 0, 0, 0, 0]))) rfl rfl rfl (Nat.le_of_ble_eq_true rfl) rfl rfl c35_X6_no (by decide) (by simp only [List.length_set]) ?_
    exact E_iret rfl rfl, (by simp only [List.length_set]; rfl), (by simp only [List.length_set]; rfl), ((ab_szs rfl).trans ((ab_szs rfl).trans rfl)), fun _ => rfl⟩
theorem f_copy_17 (a3 a4 a5 : Int32) : p1_P 3 78 2 137 [.ref 0, .int 1, .int 6, .int a3, .int a4, .int a5] [.ref 65, .int 1, .int 6, .int a3, .int a4, .int a5] :=
  ⟨(-3), (w0.set 48 (.inl [0, 0, 0, 1, 0, 0, 0, 0])), ((w0.set 48 (.inl [0, 0, 0, 1, 0, 0, 0, 0])).set 66 (.inl [0, 0, 0, 1, 0, 0, 0, 0])), by
    refine Ef.in (md := mX5_copy) (L := [some (.ref 0), some (.int 1), some (.int 6), some (.int a3), some (.int a4), some (.int a5), none, none]) rfl (Nat.le_of_ble_eq_true rfl) rfl ?_
    refine E_iload_n rfl rfl ?_
    refine E_callS (v := some (.int 1)) (As := [.int 1]) (r0 := []) (cs2 := w0) rfl rfl rfl (Nat.le_of_ble_eq_true rfl) rfl c12_X5_isShelf (by decide) rfl ?_
    refine E_if (t := 14) (b := false) rfl rfl (by decide) ?_
    refine E_iload_n rfl rfl ?_
    refine E_callS (v := some (.int 1)) (As := [.int 6]) (r0 := []) (cs2 := w0) rfl rfl rfl (Nat.le_of_ble_eq_true rfl) rfl c22_X5_isShelf (by decide) rfl ?_
    refine E_if (t := 20) (b := true) rfl rfl (by decide) ?_
    refine E_aload_n rfl rfl ?_
    refine E_getfield (v := .ref 31) rfl rfl rfl (by decide) rfl ?_
    refine E_iload_n rfl rfl ?_
    refine E_aaload (b := 51) (j := 1) rfl rfl (by decide) (by decide) rfl ?_
    refine E_astore (L2 := [some (.ref 0), some (.int 1), some (.int 6), some (.int a3), some (.int a4), some (.int a5), some (.ref 51), none]) rfl rfl ?_
    refine E_aload_n rfl rfl ?_
    refine E_getfield (v := .ref 31) rfl rfl rfl (by decide) rfl ?_
    refine E_iload_n rfl rfl ?_
    refine E_aaload (b := 61) (j := 6) rfl rfl (by decide) (by decide) rfl ?_
    refine E_astore (L2 := [some (.ref 0), some (.int 1), some (.int 6), some (.int a3), some (.int a4), some (.int a5), some (.ref 51), some (.ref 61)]) rfl rfl ?_
    refine E_aload rfl rfl ?_
    refine E_callV (v := some (.int 0)) (As := [.ref 51]) (r0 := []) (cs2 := w0) rfl rfl rfl (Nat.le_of_ble_eq_true rfl) rfl rfl c37_X3_isOtherThanRow (by decide) rfl ?_
    refine E_if (t := 62) (b := false) rfl rfl (by decide) ?_
    refine E_aload rfl rfl ?_
    refine E_callV (v := some (.int 0)) (As := [.ref 61]) (r0 := []) (cs2 := w0) rfl rfl rfl (Nat.le_of_ble_eq_true rfl) rfl rfl c57_X3_isOtherThanRow (by decide) rfl ?_
    refine E_if (t := 62) (b := false) rfl rfl (by decide) ?_
    refine E_aload rfl rfl ?_
    refine E_aload rfl rfl ?_
    refine E_callV (v := some (.int 0)) (As := [.ref 51, .ref 61]) (r0 := []) (cs2 := w0) rfl rfl rfl (Nat.le_of_ble_eq_true rfl) rfl rfl c78_X3_isOfOtherSort (by decide) rfl ?_
    refine E_if (t := 68) (b := true) rfl rfl (by decide) ?_
    refine E_aload rfl rfl ?_
    refine E_callV (v := some (.int 1)) (As := [.ref 51]) (r0 := []) (cs2 := w0) rfl rfl rfl (Nat.le_of_ble_eq_true rfl) rfl rfl c38_X3_isEmpty (by decide) rfl ?_
    refine E_if (t := 84) (b := true) rfl rfl (by decide) ?_
    refine E_aload_n rfl rfl ?_
    refine E_iconst (x := 3) rfl (by decide) ?_
    refine E_callV (v := some (.int (-3))) (As := [.ref 0, .int 3]) (r0 := []) (cs2 := (w0.set 48 (.inl [0, 0, 0, 1, 0, 0, 0, 0]))) rfl rfl rfl (Nat.le_of_ble_eq_true rfl) rfl rfl c32_X5_refuse (by decide) (by simp only [List.length_set]) ?_
    exact E_iret rfl rfl, by
    refine Ef.in (md := mX6_copy) (L := [some (.ref 65), some (.int 1), some (.int 6), some (.int a3), some (.int a4), some (.int a5), none]) rfl (Nat.le_of_ble_eq_true rfl) rfl ?_
    refine E_aload_n rfl rfl ?_
    refine E_iload_n rfl rfl ?_
    refine E_callV (v := some (.int 1)) (As := [.ref 65, .int 1]) (r0 := []) (cs2 := (w0.set 48 (.inl [0, 0, 0, 1, 0, 0, 0, 0]))) rfl rfl rfl (Nat.le_of_ble_eq_true rfl) rfl rfl c39_X6_isShelf (by decide) rfl ?_
    refine E_if (t := 16) (b := false) rfl rfl (by decide) ?_
    refine E_aload_n rfl rfl ?_
    refine E_iload_n rfl rfl ?_
    refine E_callV (v := some (.int 1)) (As := [.ref 65, .int 6]) (r0 := []) (cs2 := (w0.set 48 (.inl [0, 0, 0, 1, 0, 0, 0, 0]))) rfl rfl rfl (Nat.le_of_ble_eq_true rfl) rfl rfl c59_X6_isShelf (by decide) rfl ?_
    refine E_if (t := 22) (b := true) rfl rfl (by decide) ?_
    refine E_aload_n rfl rfl ?_
    refine E_getfield (v := .ref 76) rfl rfl rfl (by decide) rfl ?_
    refine E_iload_n rfl rfl ?_
    refine E_iaload (x := 0) (j := 1) rfl rfl (by decide) (by decide) rfl ?_
    refine E_iconst (x := 2) rfl (by decide) ?_
    refine E_ic (t := 77) (b := false) rfl rfl (by decide) ?_
    refine E_aload_n rfl rfl ?_
    refine E_getfield (v := .ref 76) rfl rfl rfl (by decide) rfl ?_
    refine E_iload_n rfl rfl ?_
    refine E_iaload (x := 0) (j := 6) rfl rfl (by decide) (by decide) rfl ?_
    refine E_iconst (x := 2) rfl (by decide) ?_
    refine E_ic (t := 77) (b := false) rfl rfl (by decide) ?_
    refine E_aload_n rfl rfl ?_
    refine E_getfield (v := .ref 76) rfl rfl rfl (by decide) rfl ?_
    refine E_iload_n rfl rfl ?_
    refine E_iaload (x := 0) (j := 1) rfl rfl (by decide) (by decide) rfl ?_
    refine E_iconst (x := 1) rfl (by decide) ?_
    refine E_ic (t := 84) (b := true) rfl rfl (by decide) ?_
    refine E_aload_n rfl rfl ?_
    refine E_getfield (v := .ref 76) rfl rfl rfl (by decide) rfl ?_
    refine E_iload_n rfl rfl ?_
    refine E_iaload (x := 0) (j := 1) rfl rfl (by decide) (by decide) rfl ?_
    refine E_if (t := 102) (b := true) rfl rfl (by decide) ?_
    refine E_aload_n rfl rfl ?_
    refine E_bipush (x := (-3)) rfl (by decide) ?_
    refine E_callV (v := some (.int (-3))) (As := [.ref 65, .int (-3)]) (r0 := []) (cs2 := ((w0.set 48 (.inl [0, 0, 0, 1, 0, 0, 0, 0])).set 66 (.inl [0, 0, 0, 1, 0, 0, 0, 0]))) rfl rfl rfl (Nat.le_of_ble_eq_true rfl) rfl rfl c35_X6_no (by decide) (by simp only [List.length_set]) ?_
    exact E_iret rfl rfl, (by simp only [List.length_set]; rfl), (by simp only [List.length_set]; rfl), ((ab_szs rfl).trans ((ab_szs rfl).trans rfl)), fun _ => rfl⟩
theorem f_copy_18 (a3 a4 a5 : Int32) : p1_P 3 78 2 137 [.ref 0, .int 1, .int 7, .int a3, .int a4, .int a5] [.ref 65, .int 1, .int 7, .int a3, .int a4, .int a5] :=
  ⟨(-3), (w0.set 48 (.inl [0, 0, 0, 1, 0, 0, 0, 0])), ((w0.set 48 (.inl [0, 0, 0, 1, 0, 0, 0, 0])).set 66 (.inl [0, 0, 0, 1, 0, 0, 0, 0])), by
    refine Ef.in (md := mX5_copy) (L := [some (.ref 0), some (.int 1), some (.int 7), some (.int a3), some (.int a4), some (.int a5), none, none]) rfl (Nat.le_of_ble_eq_true rfl) rfl ?_
    refine E_iload_n rfl rfl ?_
    refine E_callS (v := some (.int 1)) (As := [.int 1]) (r0 := []) (cs2 := w0) rfl rfl rfl (Nat.le_of_ble_eq_true rfl) rfl c12_X5_isShelf (by decide) rfl ?_
    refine E_if (t := 14) (b := false) rfl rfl (by decide) ?_
    refine E_iload_n rfl rfl ?_
    refine E_callS (v := some (.int 1)) (As := [.int 7]) (r0 := []) (cs2 := w0) rfl rfl rfl (Nat.le_of_ble_eq_true rfl) rfl c24_X5_isShelf (by decide) rfl ?_
    refine E_if (t := 20) (b := true) rfl rfl (by decide) ?_
    refine E_aload_n rfl rfl ?_
    refine E_getfield (v := .ref 31) rfl rfl rfl (by decide) rfl ?_
    refine E_iload_n rfl rfl ?_
    refine E_aaload (b := 51) (j := 1) rfl rfl (by decide) (by decide) rfl ?_
    refine E_astore (L2 := [some (.ref 0), some (.int 1), some (.int 7), some (.int a3), some (.int a4), some (.int a5), some (.ref 51), none]) rfl rfl ?_
    refine E_aload_n rfl rfl ?_
    refine E_getfield (v := .ref 31) rfl rfl rfl (by decide) rfl ?_
    refine E_iload_n rfl rfl ?_
    refine E_aaload (b := 63) (j := 7) rfl rfl (by decide) (by decide) rfl ?_
    refine E_astore (L2 := [some (.ref 0), some (.int 1), some (.int 7), some (.int a3), some (.int a4), some (.int a5), some (.ref 51), some (.ref 63)]) rfl rfl ?_
    refine E_aload rfl rfl ?_
    refine E_callV (v := some (.int 0)) (As := [.ref 51]) (r0 := []) (cs2 := w0) rfl rfl rfl (Nat.le_of_ble_eq_true rfl) rfl rfl c37_X3_isOtherThanRow (by decide) rfl ?_
    refine E_if (t := 62) (b := false) rfl rfl (by decide) ?_
    refine E_aload rfl rfl ?_
    refine E_callV (v := some (.int 0)) (As := [.ref 63]) (r0 := []) (cs2 := w0) rfl rfl rfl (Nat.le_of_ble_eq_true rfl) rfl rfl c61_X3_isOtherThanRow (by decide) rfl ?_
    refine E_if (t := 62) (b := false) rfl rfl (by decide) ?_
    refine E_aload rfl rfl ?_
    refine E_aload rfl rfl ?_
    refine E_callV (v := some (.int 0)) (As := [.ref 51, .ref 63]) (r0 := []) (cs2 := w0) rfl rfl rfl (Nat.le_of_ble_eq_true rfl) rfl rfl c79_X3_isOfOtherSort (by decide) rfl ?_
    refine E_if (t := 68) (b := true) rfl rfl (by decide) ?_
    refine E_aload rfl rfl ?_
    refine E_callV (v := some (.int 1)) (As := [.ref 51]) (r0 := []) (cs2 := w0) rfl rfl rfl (Nat.le_of_ble_eq_true rfl) rfl rfl c38_X3_isEmpty (by decide) rfl ?_
    refine E_if (t := 84) (b := true) rfl rfl (by decide) ?_
    refine E_aload_n rfl rfl ?_
    refine E_iconst (x := 3) rfl (by decide) ?_
    refine E_callV (v := some (.int (-3))) (As := [.ref 0, .int 3]) (r0 := []) (cs2 := (w0.set 48 (.inl [0, 0, 0, 1, 0, 0, 0, 0]))) rfl rfl rfl (Nat.le_of_ble_eq_true rfl) rfl rfl c32_X5_refuse (by decide) (by simp only [List.length_set]) ?_
    exact E_iret rfl rfl, by
    refine Ef.in (md := mX6_copy) (L := [some (.ref 65), some (.int 1), some (.int 7), some (.int a3), some (.int a4), some (.int a5), none]) rfl (Nat.le_of_ble_eq_true rfl) rfl ?_
    refine E_aload_n rfl rfl ?_
    refine E_iload_n rfl rfl ?_
    refine E_callV (v := some (.int 1)) (As := [.ref 65, .int 1]) (r0 := []) (cs2 := (w0.set 48 (.inl [0, 0, 0, 1, 0, 0, 0, 0]))) rfl rfl rfl (Nat.le_of_ble_eq_true rfl) rfl rfl c39_X6_isShelf (by decide) rfl ?_
    refine E_if (t := 16) (b := false) rfl rfl (by decide) ?_
    refine E_aload_n rfl rfl ?_
    refine E_iload_n rfl rfl ?_
    refine E_callV (v := some (.int 1)) (As := [.ref 65, .int 7]) (r0 := []) (cs2 := (w0.set 48 (.inl [0, 0, 0, 1, 0, 0, 0, 0]))) rfl rfl rfl (Nat.le_of_ble_eq_true rfl) rfl rfl c63_X6_isShelf (by decide) rfl ?_
    refine E_if (t := 22) (b := true) rfl rfl (by decide) ?_
    refine E_aload_n rfl rfl ?_
    refine E_getfield (v := .ref 76) rfl rfl rfl (by decide) rfl ?_
    refine E_iload_n rfl rfl ?_
    refine E_iaload (x := 0) (j := 1) rfl rfl (by decide) (by decide) rfl ?_
    refine E_iconst (x := 2) rfl (by decide) ?_
    refine E_ic (t := 77) (b := false) rfl rfl (by decide) ?_
    refine E_aload_n rfl rfl ?_
    refine E_getfield (v := .ref 76) rfl rfl rfl (by decide) rfl ?_
    refine E_iload_n rfl rfl ?_
    refine E_iaload (x := 0) (j := 7) rfl rfl (by decide) (by decide) rfl ?_
    refine E_iconst (x := 2) rfl (by decide) ?_
    refine E_ic (t := 77) (b := false) rfl rfl (by decide) ?_
    refine E_aload_n rfl rfl ?_
    refine E_getfield (v := .ref 76) rfl rfl rfl (by decide) rfl ?_
    refine E_iload_n rfl rfl ?_
    refine E_iaload (x := 0) (j := 1) rfl rfl (by decide) (by decide) rfl ?_
    refine E_iconst (x := 1) rfl (by decide) ?_
    refine E_ic (t := 84) (b := true) rfl rfl (by decide) ?_
    refine E_aload_n rfl rfl ?_
    refine E_getfield (v := .ref 76) rfl rfl rfl (by decide) rfl ?_
    refine E_iload_n rfl rfl ?_
    refine E_iaload (x := 0) (j := 1) rfl rfl (by decide) (by decide) rfl ?_
    refine E_if (t := 102) (b := true) rfl rfl (by decide) ?_
    refine E_aload_n rfl rfl ?_
    refine E_bipush (x := (-3)) rfl (by decide) ?_
    refine E_callV (v := some (.int (-3))) (As := [.ref 65, .int (-3)]) (r0 := []) (cs2 := ((w0.set 48 (.inl [0, 0, 0, 1, 0, 0, 0, 0])).set 66 (.inl [0, 0, 0, 1, 0, 0, 0, 0]))) rfl rfl rfl (Nat.le_of_ble_eq_true rfl) rfl rfl c35_X6_no (by decide) (by simp only [List.length_set]) ?_
    exact E_iret rfl rfl, (by simp only [List.length_set]; rfl), (by simp only [List.length_set]; rfl), ((ab_szs rfl).trans ((ab_szs rfl).trans rfl)), fun _ => rfl⟩
theorem f_copy_19 (a3 a4 a5 : Int32) : p1_P 3 78 2 137 [.ref 0, .int 2, .int 0, .int a3, .int a4, .int a5] [.ref 65, .int 2, .int 0, .int a3, .int a4, .int a5] :=
  ⟨(-3), (w0.set 48 (.inl [0, 0, 0, 1, 0, 0, 0, 0])), ((w0.set 48 (.inl [0, 0, 0, 1, 0, 0, 0, 0])).set 66 (.inl [0, 0, 0, 1, 0, 0, 0, 0])), by
    refine Ef.in (md := mX5_copy) (L := [some (.ref 0), some (.int 2), some (.int 0), some (.int a3), some (.int a4), some (.int a5), none, none]) rfl (Nat.le_of_ble_eq_true rfl) rfl ?_
    refine E_iload_n rfl rfl ?_
    refine E_callS (v := some (.int 1)) (As := [.int 2]) (r0 := []) (cs2 := w0) rfl rfl rfl (Nat.le_of_ble_eq_true rfl) rfl c14_X5_isShelf (by decide) rfl ?_
    refine E_if (t := 14) (b := false) rfl rfl (by decide) ?_
    refine E_iload_n rfl rfl ?_
    refine E_callS (v := some (.int 1)) (As := [.int 0]) (r0 := []) (cs2 := w0) rfl rfl rfl (Nat.le_of_ble_eq_true rfl) rfl c10_X5_isShelf (by decide) rfl ?_
    refine E_if (t := 20) (b := true) rfl rfl (by decide) ?_
    refine E_aload_n rfl rfl ?_
    refine E_getfield (v := .ref 31) rfl rfl rfl (by decide) rfl ?_
    refine E_iload_n rfl rfl ?_
    refine E_aaload (b := 53) (j := 2) rfl rfl (by decide) (by decide) rfl ?_
    refine E_astore (L2 := [some (.ref 0), some (.int 2), some (.int 0), some (.int a3), some (.int a4), some (.int a5), some (.ref 53), none]) rfl rfl ?_
    refine E_aload_n rfl rfl ?_
    refine E_getfield (v := .ref 31) rfl rfl rfl (by decide) rfl ?_
    refine E_iload_n rfl rfl ?_
    refine E_aaload (b := 49) (j := 0) rfl rfl (by decide) (by decide) rfl ?_
    refine E_astore (L2 := [some (.ref 0), some (.int 2), some (.int 0), some (.int a3), some (.int a4), some (.int a5), some (.ref 53), some (.ref 49)]) rfl rfl ?_
    refine E_aload rfl rfl ?_
    refine E_callV (v := some (.int 0)) (As := [.ref 53]) (r0 := []) (cs2 := w0) rfl rfl rfl (Nat.le_of_ble_eq_true rfl) rfl rfl c41_X3_isOtherThanRow (by decide) rfl ?_
    refine E_if (t := 62) (b := false) rfl rfl (by decide) ?_
    refine E_aload rfl rfl ?_
    refine E_callV (v := some (.int 0)) (As := [.ref 49]) (r0 := []) (cs2 := w0) rfl rfl rfl (Nat.le_of_ble_eq_true rfl) rfl rfl c30_X3_isOtherThanRow (by decide) rfl ?_
    refine E_if (t := 62) (b := false) rfl rfl (by decide) ?_
    refine E_aload rfl rfl ?_
    refine E_aload rfl rfl ?_
    refine E_callV (v := some (.int 0)) (As := [.ref 53, .ref 49]) (r0 := []) (cs2 := w0) rfl rfl rfl (Nat.le_of_ble_eq_true rfl) rfl rfl c80_X3_isOfOtherSort (by decide) rfl ?_
    refine E_if (t := 68) (b := true) rfl rfl (by decide) ?_
    refine E_aload rfl rfl ?_
    refine E_callV (v := some (.int 1)) (As := [.ref 53]) (r0 := []) (cs2 := w0) rfl rfl rfl (Nat.le_of_ble_eq_true rfl) rfl rfl c42_X3_isEmpty (by decide) rfl ?_
    refine E_if (t := 84) (b := true) rfl rfl (by decide) ?_
    refine E_aload_n rfl rfl ?_
    refine E_iconst (x := 3) rfl (by decide) ?_
    refine E_callV (v := some (.int (-3))) (As := [.ref 0, .int 3]) (r0 := []) (cs2 := (w0.set 48 (.inl [0, 0, 0, 1, 0, 0, 0, 0]))) rfl rfl rfl (Nat.le_of_ble_eq_true rfl) rfl rfl c32_X5_refuse (by decide) (by simp only [List.length_set]) ?_
    exact E_iret rfl rfl, by
    refine Ef.in (md := mX6_copy) (L := [some (.ref 65), some (.int 2), some (.int 0), some (.int a3), some (.int a4), some (.int a5), none]) rfl (Nat.le_of_ble_eq_true rfl) rfl ?_
    refine E_aload_n rfl rfl ?_
    refine E_iload_n rfl rfl ?_
    refine E_callV (v := some (.int 1)) (As := [.ref 65, .int 2]) (r0 := []) (cs2 := (w0.set 48 (.inl [0, 0, 0, 1, 0, 0, 0, 0]))) rfl rfl rfl (Nat.le_of_ble_eq_true rfl) rfl rfl c43_X6_isShelf (by decide) rfl ?_
    refine E_if (t := 16) (b := false) rfl rfl (by decide) ?_
    refine E_aload_n rfl rfl ?_
    refine E_iload_n rfl rfl ?_
    refine E_callV (v := some (.int 1)) (As := [.ref 65, .int 0]) (r0 := []) (cs2 := (w0.set 48 (.inl [0, 0, 0, 1, 0, 0, 0, 0]))) rfl rfl rfl (Nat.le_of_ble_eq_true rfl) rfl rfl c34_X6_isShelf (by decide) rfl ?_
    refine E_if (t := 22) (b := true) rfl rfl (by decide) ?_
    refine E_aload_n rfl rfl ?_
    refine E_getfield (v := .ref 76) rfl rfl rfl (by decide) rfl ?_
    refine E_iload_n rfl rfl ?_
    refine E_iaload (x := 0) (j := 2) rfl rfl (by decide) (by decide) rfl ?_
    refine E_iconst (x := 2) rfl (by decide) ?_
    refine E_ic (t := 77) (b := false) rfl rfl (by decide) ?_
    refine E_aload_n rfl rfl ?_
    refine E_getfield (v := .ref 76) rfl rfl rfl (by decide) rfl ?_
    refine E_iload_n rfl rfl ?_
    refine E_iaload (x := 0) (j := 0) rfl rfl (by decide) (by decide) rfl ?_
    refine E_iconst (x := 2) rfl (by decide) ?_
    refine E_ic (t := 77) (b := false) rfl rfl (by decide) ?_
    refine E_aload_n rfl rfl ?_
    refine E_getfield (v := .ref 76) rfl rfl rfl (by decide) rfl ?_
    refine E_iload_n rfl rfl ?_
    refine E_iaload (x := 0) (j := 2) rfl rfl (by decide) (by decide) rfl ?_
    refine E_iconst (x := 1) rfl (by decide) ?_
    refine E_ic (t := 84) (b := true) rfl rfl (by decide) ?_
    refine E_aload_n rfl rfl ?_
    refine E_getfield (v := .ref 76) rfl rfl rfl (by decide) rfl ?_
    refine E_iload_n rfl rfl ?_
    refine E_iaload (x := 0) (j := 2) rfl rfl (by decide) (by decide) rfl ?_
    refine E_if (t := 102) (b := true) rfl rfl (by decide) ?_
    refine E_aload_n rfl rfl ?_
    refine E_bipush (x := (-3)) rfl (by decide) ?_
    refine E_callV (v := some (.int (-3))) (As := [.ref 65, .int (-3)]) (r0 := []) (cs2 := ((w0.set 48 (.inl [0, 0, 0, 1, 0, 0, 0, 0])).set 66 (.inl [0, 0, 0, 1, 0, 0, 0, 0]))) rfl rfl rfl (Nat.le_of_ble_eq_true rfl) rfl rfl c35_X6_no (by decide) (by simp only [List.length_set]) ?_
    exact E_iret rfl rfl, (by simp only [List.length_set]; rfl), (by simp only [List.length_set]; rfl), ((ab_szs rfl).trans ((ab_szs rfl).trans rfl)), fun _ => rfl⟩
theorem f_copy_20 (a3 a4 a5 : Int32) : p1_P 3 78 2 137 [.ref 0, .int 2, .int 1, .int a3, .int a4, .int a5] [.ref 65, .int 2, .int 1, .int a3, .int a4, .int a5] :=
  ⟨(-3), (w0.set 48 (.inl [0, 0, 0, 1, 0, 0, 0, 0])), ((w0.set 48 (.inl [0, 0, 0, 1, 0, 0, 0, 0])).set 66 (.inl [0, 0, 0, 1, 0, 0, 0, 0])), by
    refine Ef.in (md := mX5_copy) (L := [some (.ref 0), some (.int 2), some (.int 1), some (.int a3), some (.int a4), some (.int a5), none, none]) rfl (Nat.le_of_ble_eq_true rfl) rfl ?_
    refine E_iload_n rfl rfl ?_
    refine E_callS (v := some (.int 1)) (As := [.int 2]) (r0 := []) (cs2 := w0) rfl rfl rfl (Nat.le_of_ble_eq_true rfl) rfl c14_X5_isShelf (by decide) rfl ?_
    refine E_if (t := 14) (b := false) rfl rfl (by decide) ?_
    refine E_iload_n rfl rfl ?_
    refine E_callS (v := some (.int 1)) (As := [.int 1]) (r0 := []) (cs2 := w0) rfl rfl rfl (Nat.le_of_ble_eq_true rfl) rfl c12_X5_isShelf (by decide) rfl ?_
    refine E_if (t := 20) (b := true) rfl rfl (by decide) ?_
    refine E_aload_n rfl rfl ?_
    refine E_getfield (v := .ref 31) rfl rfl rfl (by decide) rfl ?_
    refine E_iload_n rfl rfl ?_
    refine E_aaload (b := 53) (j := 2) rfl rfl (by decide) (by decide) rfl ?_
    refine E_astore (L2 := [some (.ref 0), some (.int 2), some (.int 1), some (.int a3), some (.int a4), some (.int a5), some (.ref 53), none]) rfl rfl ?_
    refine E_aload_n rfl rfl ?_
    refine E_getfield (v := .ref 31) rfl rfl rfl (by decide) rfl ?_
    refine E_iload_n rfl rfl ?_
    refine E_aaload (b := 51) (j := 1) rfl rfl (by decide) (by decide) rfl ?_
    refine E_astore (L2 := [some (.ref 0), some (.int 2), some (.int 1), some (.int a3), some (.int a4), some (.int a5), some (.ref 53), some (.ref 51)]) rfl rfl ?_
    refine E_aload rfl rfl ?_
    refine E_callV (v := some (.int 0)) (As := [.ref 53]) (r0 := []) (cs2 := w0) rfl rfl rfl (Nat.le_of_ble_eq_true rfl) rfl rfl c41_X3_isOtherThanRow (by decide) rfl ?_
    refine E_if (t := 62) (b := false) rfl rfl (by decide) ?_
    refine E_aload rfl rfl ?_
    refine E_callV (v := some (.int 0)) (As := [.ref 51]) (r0 := []) (cs2 := w0) rfl rfl rfl (Nat.le_of_ble_eq_true rfl) rfl rfl c37_X3_isOtherThanRow (by decide) rfl ?_
    refine E_if (t := 62) (b := false) rfl rfl (by decide) ?_
    refine E_aload rfl rfl ?_
    refine E_aload rfl rfl ?_
    refine E_callV (v := some (.int 0)) (As := [.ref 53, .ref 51]) (r0 := []) (cs2 := w0) rfl rfl rfl (Nat.le_of_ble_eq_true rfl) rfl rfl c81_X3_isOfOtherSort (by decide) rfl ?_
    refine E_if (t := 68) (b := true) rfl rfl (by decide) ?_
    refine E_aload rfl rfl ?_
    refine E_callV (v := some (.int 1)) (As := [.ref 53]) (r0 := []) (cs2 := w0) rfl rfl rfl (Nat.le_of_ble_eq_true rfl) rfl rfl c42_X3_isEmpty (by decide) rfl ?_
    refine E_if (t := 84) (b := true) rfl rfl (by decide) ?_
    refine E_aload_n rfl rfl ?_
    refine E_iconst (x := 3) rfl (by decide) ?_
    refine E_callV (v := some (.int (-3))) (As := [.ref 0, .int 3]) (r0 := []) (cs2 := (w0.set 48 (.inl [0, 0, 0, 1, 0, 0, 0, 0]))) rfl rfl rfl (Nat.le_of_ble_eq_true rfl) rfl rfl c32_X5_refuse (by decide) (by simp only [List.length_set]) ?_
    exact E_iret rfl rfl, by
    refine Ef.in (md := mX6_copy) (L := [some (.ref 65), some (.int 2), some (.int 1), some (.int a3), some (.int a4), some (.int a5), none]) rfl (Nat.le_of_ble_eq_true rfl) rfl ?_
    refine E_aload_n rfl rfl ?_
    refine E_iload_n rfl rfl ?_
    refine E_callV (v := some (.int 1)) (As := [.ref 65, .int 2]) (r0 := []) (cs2 := (w0.set 48 (.inl [0, 0, 0, 1, 0, 0, 0, 0]))) rfl rfl rfl (Nat.le_of_ble_eq_true rfl) rfl rfl c43_X6_isShelf (by decide) rfl ?_
    refine E_if (t := 16) (b := false) rfl rfl (by decide) ?_
    refine E_aload_n rfl rfl ?_
    refine E_iload_n rfl rfl ?_
    refine E_callV (v := some (.int 1)) (As := [.ref 65, .int 1]) (r0 := []) (cs2 := (w0.set 48 (.inl [0, 0, 0, 1, 0, 0, 0, 0]))) rfl rfl rfl (Nat.le_of_ble_eq_true rfl) rfl rfl c39_X6_isShelf (by decide) rfl ?_
    refine E_if (t := 22) (b := true) rfl rfl (by decide) ?_
    refine E_aload_n rfl rfl ?_
    refine E_getfield (v := .ref 76) rfl rfl rfl (by decide) rfl ?_
    refine E_iload_n rfl rfl ?_
    refine E_iaload (x := 0) (j := 2) rfl rfl (by decide) (by decide) rfl ?_
    refine E_iconst (x := 2) rfl (by decide) ?_
    refine E_ic (t := 77) (b := false) rfl rfl (by decide) ?_
    refine E_aload_n rfl rfl ?_
    refine E_getfield (v := .ref 76) rfl rfl rfl (by decide) rfl ?_
    refine E_iload_n rfl rfl ?_
    refine E_iaload (x := 0) (j := 1) rfl rfl (by decide) (by decide) rfl ?_
    refine E_iconst (x := 2) rfl (by decide) ?_
    refine E_ic (t := 77) (b := false) rfl rfl (by decide) ?_
    refine E_aload_n rfl rfl ?_
    refine E_getfield (v := .ref 76) rfl rfl rfl (by decide) rfl ?_
    refine E_iload_n rfl rfl ?_
    refine E_iaload (x := 0) (j := 2) rfl rfl (by decide) (by decide) rfl ?_
    refine E_iconst (x := 1) rfl (by decide) ?_
    refine E_ic (t := 84) (b := true) rfl rfl (by decide) ?_
    refine E_aload_n rfl rfl ?_
    refine E_getfield (v := .ref 76) rfl rfl rfl (by decide) rfl ?_
    refine E_iload_n rfl rfl ?_
    refine E_iaload (x := 0) (j := 2) rfl rfl (by decide) (by decide) rfl ?_
    refine E_if (t := 102) (b := true) rfl rfl (by decide) ?_
    refine E_aload_n rfl rfl ?_
    refine E_bipush (x := (-3)) rfl (by decide) ?_
    refine E_callV (v := some (.int (-3))) (As := [.ref 65, .int (-3)]) (r0 := []) (cs2 := ((w0.set 48 (.inl [0, 0, 0, 1, 0, 0, 0, 0])).set 66 (.inl [0, 0, 0, 1, 0, 0, 0, 0]))) rfl rfl rfl (Nat.le_of_ble_eq_true rfl) rfl rfl c35_X6_no (by decide) (by simp only [List.length_set]) ?_
    exact E_iret rfl rfl, (by simp only [List.length_set]; rfl), (by simp only [List.length_set]; rfl), ((ab_szs rfl).trans ((ab_szs rfl).trans rfl)), fun _ => rfl⟩
theorem f_copy_21 (a3 a4 a5 : Int32) : p1_P 3 78 2 137 [.ref 0, .int 2, .int 2, .int a3, .int a4, .int a5] [.ref 65, .int 2, .int 2, .int a3, .int a4, .int a5] :=
  ⟨(-3), (w0.set 48 (.inl [0, 0, 0, 1, 0, 0, 0, 0])), ((w0.set 48 (.inl [0, 0, 0, 1, 0, 0, 0, 0])).set 66 (.inl [0, 0, 0, 1, 0, 0, 0, 0])), by
    refine Ef.in (md := mX5_copy) (L := [some (.ref 0), some (.int 2), some (.int 2), some (.int a3), some (.int a4), some (.int a5), none, none]) rfl (Nat.le_of_ble_eq_true rfl) rfl ?_
    refine E_iload_n rfl rfl ?_
    refine E_callS (v := some (.int 1)) (As := [.int 2]) (r0 := []) (cs2 := w0) rfl rfl rfl (Nat.le_of_ble_eq_true rfl) rfl c14_X5_isShelf (by decide) rfl ?_
    refine E_if (t := 14) (b := false) rfl rfl (by decide) ?_
    refine E_iload_n rfl rfl ?_
    refine E_callS (v := some (.int 1)) (As := [.int 2]) (r0 := []) (cs2 := w0) rfl rfl rfl (Nat.le_of_ble_eq_true rfl) rfl c14_X5_isShelf (by decide) rfl ?_
    refine E_if (t := 20) (b := true) rfl rfl (by decide) ?_
    refine E_aload_n rfl rfl ?_
    refine E_getfield (v := .ref 31) rfl rfl rfl (by decide) rfl ?_
    refine E_iload_n rfl rfl ?_
    refine E_aaload (b := 53) (j := 2) rfl rfl (by decide) (by decide) rfl ?_
    refine E_astore (L2 := [some (.ref 0), some (.int 2), some (.int 2), some (.int a3), some (.int a4), some (.int a5), some (.ref 53), none]) rfl rfl ?_
    refine E_aload_n rfl rfl ?_
    refine E_getfield (v := .ref 31) rfl rfl rfl (by decide) rfl ?_
    refine E_iload_n rfl rfl ?_
    refine E_aaload (b := 53) (j := 2) rfl rfl (by decide) (by decide) rfl ?_
    refine E_astore (L2 := [some (.ref 0), some (.int 2), some (.int 2), some (.int a3), some (.int a4), some (.int a5), some (.ref 53), some (.ref 53)]) rfl rfl ?_
    refine E_aload rfl rfl ?_
    refine E_callV (v := some (.int 0)) (As := [.ref 53]) (r0 := []) (cs2 := w0) rfl rfl rfl (Nat.le_of_ble_eq_true rfl) rfl rfl c41_X3_isOtherThanRow (by decide) rfl ?_
    refine E_if (t := 62) (b := false) rfl rfl (by decide) ?_
    refine E_aload rfl rfl ?_
    refine E_callV (v := some (.int 0)) (As := [.ref 53]) (r0 := []) (cs2 := w0) rfl rfl rfl (Nat.le_of_ble_eq_true rfl) rfl rfl c41_X3_isOtherThanRow (by decide) rfl ?_
    refine E_if (t := 62) (b := false) rfl rfl (by decide) ?_
    refine E_aload rfl rfl ?_
    refine E_aload rfl rfl ?_
    refine E_callV (v := some (.int 0)) (As := [.ref 53, .ref 53]) (r0 := []) (cs2 := w0) rfl rfl rfl (Nat.le_of_ble_eq_true rfl) rfl rfl c82_X3_isOfOtherSort (by decide) rfl ?_
    refine E_if (t := 68) (b := true) rfl rfl (by decide) ?_
    refine E_aload rfl rfl ?_
    refine E_callV (v := some (.int 1)) (As := [.ref 53]) (r0 := []) (cs2 := w0) rfl rfl rfl (Nat.le_of_ble_eq_true rfl) rfl rfl c42_X3_isEmpty (by decide) rfl ?_
    refine E_if (t := 84) (b := true) rfl rfl (by decide) ?_
    refine E_aload_n rfl rfl ?_
    refine E_iconst (x := 3) rfl (by decide) ?_
    refine E_callV (v := some (.int (-3))) (As := [.ref 0, .int 3]) (r0 := []) (cs2 := (w0.set 48 (.inl [0, 0, 0, 1, 0, 0, 0, 0]))) rfl rfl rfl (Nat.le_of_ble_eq_true rfl) rfl rfl c32_X5_refuse (by decide) (by simp only [List.length_set]) ?_
    exact E_iret rfl rfl, by
    refine Ef.in (md := mX6_copy) (L := [some (.ref 65), some (.int 2), some (.int 2), some (.int a3), some (.int a4), some (.int a5), none]) rfl (Nat.le_of_ble_eq_true rfl) rfl ?_
    refine E_aload_n rfl rfl ?_
    refine E_iload_n rfl rfl ?_
    refine E_callV (v := some (.int 1)) (As := [.ref 65, .int 2]) (r0 := []) (cs2 := (w0.set 48 (.inl [0, 0, 0, 1, 0, 0, 0, 0]))) rfl rfl rfl (Nat.le_of_ble_eq_true rfl) rfl rfl c43_X6_isShelf (by decide) rfl ?_
    refine E_if (t := 16) (b := false) rfl rfl (by decide) ?_
    refine E_aload_n rfl rfl ?_
    refine E_iload_n rfl rfl ?_
    refine E_callV (v := some (.int 1)) (As := [.ref 65, .int 2]) (r0 := []) (cs2 := (w0.set 48 (.inl [0, 0, 0, 1, 0, 0, 0, 0]))) rfl rfl rfl (Nat.le_of_ble_eq_true rfl) rfl rfl c43_X6_isShelf (by decide) rfl ?_
    refine E_if (t := 22) (b := true) rfl rfl (by decide) ?_
    refine E_aload_n rfl rfl ?_
    refine E_getfield (v := .ref 76) rfl rfl rfl (by decide) rfl ?_
    refine E_iload_n rfl rfl ?_
    refine E_iaload (x := 0) (j := 2) rfl rfl (by decide) (by decide) rfl ?_
    refine E_iconst (x := 2) rfl (by decide) ?_
    refine E_ic (t := 77) (b := false) rfl rfl (by decide) ?_
    refine E_aload_n rfl rfl ?_
    refine E_getfield (v := .ref 76) rfl rfl rfl (by decide) rfl ?_
    refine E_iload_n rfl rfl ?_
    refine E_iaload (x := 0) (j := 2) rfl rfl (by decide) (by decide) rfl ?_
    refine E_iconst (x := 2) rfl (by decide) ?_
    refine E_ic (t := 77) (b := false) rfl rfl (by decide) ?_
    refine E_aload_n rfl rfl ?_
    refine E_getfield (v := .ref 76) rfl rfl rfl (by decide) rfl ?_
    refine E_iload_n rfl rfl ?_
    refine E_iaload (x := 0) (j := 2) rfl rfl (by decide) (by decide) rfl ?_
    refine E_iconst (x := 1) rfl (by decide) ?_
    refine E_ic (t := 84) (b := true) rfl rfl (by decide) ?_
    refine E_aload_n rfl rfl ?_
    refine E_getfield (v := .ref 76) rfl rfl rfl (by decide) rfl ?_
    refine E_iload_n rfl rfl ?_
    refine E_iaload (x := 0) (j := 2) rfl rfl (by decide) (by decide) rfl ?_
    refine E_if (t := 102) (b := true) rfl rfl (by decide) ?_
    refine E_aload_n rfl rfl ?_
    refine E_bipush (x := (-3)) rfl (by decide) ?_
    refine E_callV (v := some (.int (-3))) (As := [.ref 65, .int (-3)]) (r0 := []) (cs2 := ((w0.set 48 (.inl [0, 0, 0, 1, 0, 0, 0, 0])).set 66 (.inl [0, 0, 0, 1, 0, 0, 0, 0]))) rfl rfl rfl (Nat.le_of_ble_eq_true rfl) rfl rfl c35_X6_no (by decide) (by simp only [List.length_set]) ?_
    exact E_iret rfl rfl, (by simp only [List.length_set]; rfl), (by simp only [List.length_set]; rfl), ((ab_szs rfl).trans ((ab_szs rfl).trans rfl)), fun _ => rfl⟩
theorem f_copy_22 (a3 a4 a5 : Int32) : p1_P 3 78 2 137 [.ref 0, .int 2, .int 3, .int a3, .int a4, .int a5] [.ref 65, .int 2, .int 3, .int a3, .int a4, .int a5] :=
  ⟨(-3), (w0.set 48 (.inl [0, 0, 0, 1, 0, 0, 0, 0])), ((w0.set 48 (.inl [0, 0, 0, 1, 0, 0, 0, 0])).set 66 (.inl [0, 0, 0, 1, 0, 0, 0, 0])), by
    refine Ef.in (md := mX5_copy) (L := [some (.ref 0), some (.int 2), some (.int 3), some (.int a3), some (.int a4), some (.int a5), none, none]) rfl (Nat.le_of_ble_eq_true rfl) rfl ?_
    refine E_iload_n rfl rfl ?_
    refine E_callS (v := some (.int 1)) (As := [.int 2]) (r0 := []) (cs2 := w0) rfl rfl rfl (Nat.le_of_ble_eq_true rfl) rfl c14_X5_isShelf (by decide) rfl ?_
    refine E_if (t := 14) (b := false) rfl rfl (by decide) ?_
    refine E_iload_n rfl rfl ?_
    refine E_callS (v := some (.int 1)) (As := [.int 3]) (r0 := []) (cs2 := w0) rfl rfl rfl (Nat.le_of_ble_eq_true rfl) rfl c16_X5_isShelf (by decide) rfl ?_
    refine E_if (t := 20) (b := true) rfl rfl (by decide) ?_
    refine E_aload_n rfl rfl ?_
    refine E_getfield (v := .ref 31) rfl rfl rfl (by decide) rfl ?_
    refine E_iload_n rfl rfl ?_
    refine E_aaload (b := 53) (j := 2) rfl rfl (by decide) (by decide) rfl ?_
    refine E_astore (L2 := [some (.ref 0), some (.int 2), some (.int 3), some (.int a3), some (.int a4), some (.int a5), some (.ref 53), none]) rfl rfl ?_
    refine E_aload_n rfl rfl ?_
    refine E_getfield (v := .ref 31) rfl rfl rfl (by decide) rfl ?_
    refine E_iload_n rfl rfl ?_
    refine E_aaload (b := 55) (j := 3) rfl rfl (by decide) (by decide) rfl ?_
    refine E_astore (L2 := [some (.ref 0), some (.int 2), some (.int 3), some (.int a3), some (.int a4), some (.int a5), some (.ref 53), some (.ref 55)]) rfl rfl ?_
    refine E_aload rfl rfl ?_
    refine E_callV (v := some (.int 0)) (As := [.ref 53]) (r0 := []) (cs2 := w0) rfl rfl rfl (Nat.le_of_ble_eq_true rfl) rfl rfl c41_X3_isOtherThanRow (by decide) rfl ?_
    refine E_if (t := 62) (b := false) rfl rfl (by decide) ?_
    refine E_aload rfl rfl ?_
    refine E_callV (v := some (.int 0)) (As := [.ref 55]) (r0 := []) (cs2 := w0) rfl rfl rfl (Nat.le_of_ble_eq_true rfl) rfl rfl c45_X3_isOtherThanRow (by decide) rfl ?_
    refine E_if (t := 62) (b := false) rfl rfl (by decide) ?_
    refine E_aload rfl rfl ?_
    refine E_aload rfl rfl ?_
    refine E_callV (v := some (.int 0)) (As := [.ref 53, .ref 55]) (r0 := []) (cs2 := w0) rfl rfl rfl (Nat.le_of_ble_eq_true rfl) rfl rfl c83_X3_isOfOtherSort (by decide) rfl ?_
    refine E_if (t := 68) (b := true) rfl rfl (by decide) ?_
    refine E_aload rfl rfl ?_
    refine E_callV (v := some (.int 1)) (As := [.ref 53]) (r0 := []) (cs2 := w0) rfl rfl rfl (Nat.le_of_ble_eq_true rfl) rfl rfl c42_X3_isEmpty (by decide) rfl ?_
    refine E_if (t := 84) (b := true) rfl rfl (by decide) ?_
    refine E_aload_n rfl rfl ?_
    refine E_iconst (x := 3) rfl (by decide) ?_
    refine E_callV (v := some (.int (-3))) (As := [.ref 0, .int 3]) (r0 := []) (cs2 := (w0.set 48 (.inl [0, 0, 0, 1, 0, 0, 0, 0]))) rfl rfl rfl (Nat.le_of_ble_eq_true rfl) rfl rfl c32_X5_refuse (by decide) (by simp only [List.length_set]) ?_
    exact E_iret rfl rfl, by
    refine Ef.in (md := mX6_copy) (L := [some (.ref 65), some (.int 2), some (.int 3), some (.int a3), some (.int a4), some (.int a5), none]) rfl (Nat.le_of_ble_eq_true rfl) rfl ?_
    refine E_aload_n rfl rfl ?_
    refine E_iload_n rfl rfl ?_
    refine E_callV (v := some (.int 1)) (As := [.ref 65, .int 2]) (r0 := []) (cs2 := (w0.set 48 (.inl [0, 0, 0, 1, 0, 0, 0, 0]))) rfl rfl rfl (Nat.le_of_ble_eq_true rfl) rfl rfl c43_X6_isShelf (by decide) rfl ?_
    refine E_if (t := 16) (b := false) rfl rfl (by decide) ?_
    refine E_aload_n rfl rfl ?_
    refine E_iload_n rfl rfl ?_
    refine E_callV (v := some (.int 1)) (As := [.ref 65, .int 3]) (r0 := []) (cs2 := (w0.set 48 (.inl [0, 0, 0, 1, 0, 0, 0, 0]))) rfl rfl rfl (Nat.le_of_ble_eq_true rfl) rfl rfl c47_X6_isShelf (by decide) rfl ?_
    refine E_if (t := 22) (b := true) rfl rfl (by decide) ?_
    refine E_aload_n rfl rfl ?_
    refine E_getfield (v := .ref 76) rfl rfl rfl (by decide) rfl ?_
    refine E_iload_n rfl rfl ?_
    refine E_iaload (x := 0) (j := 2) rfl rfl (by decide) (by decide) rfl ?_
    refine E_iconst (x := 2) rfl (by decide) ?_
    refine E_ic (t := 77) (b := false) rfl rfl (by decide) ?_
    refine E_aload_n rfl rfl ?_
    refine E_getfield (v := .ref 76) rfl rfl rfl (by decide) rfl ?_
    refine E_iload_n rfl rfl ?_
    refine E_iaload (x := 0) (j := 3) rfl rfl (by decide) (by decide) rfl ?_
    refine E_iconst (x := 2) rfl (by decide) ?_
    refine E_ic (t := 77) (b := false) rfl rfl (by decide) ?_
    refine E_aload_n rfl rfl ?_
    refine E_getfield (v := .ref 76) rfl rfl rfl (by decide) rfl ?_
    refine E_iload_n rfl rfl ?_
    refine E_iaload (x := 0) (j := 2) rfl rfl (by decide) (by decide) rfl ?_
    refine E_iconst (x := 1) rfl (by decide) ?_
    refine E_ic (t := 84) (b := true) rfl rfl (by decide) ?_
    refine E_aload_n rfl rfl ?_
    refine E_getfield (v := .ref 76) rfl rfl rfl (by decide) rfl ?_
    refine E_iload_n rfl rfl ?_
    refine E_iaload (x := 0) (j := 2) rfl rfl (by decide) (by decide) rfl ?_
    refine E_if (t := 102) (b := true) rfl rfl (by decide) ?_
    refine E_aload_n rfl rfl ?_
    refine E_bipush (x := (-3)) rfl (by decide) ?_
    refine E_callV (v := some (.int (-3))) (As := [.ref 65, .int (-3)]) (r0 := []) (cs2 := ((w0.set 48 (.inl [0, 0, 0, 1, 0, 0, 0, 0])).set 66 (.inl [0, 0, 0, 1, 0, 0, 0, 0]))) rfl rfl rfl (Nat.le_of_ble_eq_true rfl) rfl rfl c35_X6_no (by decide) (by simp only [List.length_set]) ?_
    exact E_iret rfl rfl, (by simp only [List.length_set]; rfl), (by simp only [List.length_set]; rfl), ((ab_szs rfl).trans ((ab_szs rfl).trans rfl)), fun _ => rfl⟩
theorem f_copy_23 (a3 a4 a5 : Int32) : p1_P 3 78 2 137 [.ref 0, .int 2, .int 4, .int a3, .int a4, .int a5] [.ref 65, .int 2, .int 4, .int a3, .int a4, .int a5] :=
  ⟨(-3), (w0.set 48 (.inl [0, 0, 0, 1, 0, 0, 0, 0])), ((w0.set 48 (.inl [0, 0, 0, 1, 0, 0, 0, 0])).set 66 (.inl [0, 0, 0, 1, 0, 0, 0, 0])), by
    refine Ef.in (md := mX5_copy) (L := [some (.ref 0), some (.int 2), some (.int 4), some (.int a3), some (.int a4), some (.int a5), none, none]) rfl (Nat.le_of_ble_eq_true rfl) rfl ?_
    refine E_iload_n rfl rfl ?_
    refine E_callS (v := some (.int 1)) (As := [.int 2]) (r0 := []) (cs2 := w0) rfl rfl rfl (Nat.le_of_ble_eq_true rfl) rfl c14_X5_isShelf (by decide) rfl ?_
    refine E_if (t := 14) (b := false) rfl rfl (by decide) ?_
    refine E_iload_n rfl rfl ?_
    refine E_callS (v := some (.int 1)) (As := [.int 4]) (r0 := []) (cs2 := w0) rfl rfl rfl (Nat.le_of_ble_eq_true rfl) rfl c18_X5_isShelf (by decide) rfl ?_
    refine E_if (t := 20) (b := true) rfl rfl (by decide) ?_
    refine E_aload_n rfl rfl ?_
    refine E_getfield (v := .ref 31) rfl rfl rfl (by decide) rfl ?_
    refine E_iload_n rfl rfl ?_
    refine E_aaload (b := 53) (j := 2) rfl rfl (by decide) (by decide) rfl ?_
    refine E_astore (L2 := [some (.ref 0), some (.int 2), some (.int 4), some (.int a3), some (.int a4), some (.int a5), some (.ref 53), none]) rfl rfl ?_
    refine E_aload_n rfl rfl ?_
    refine E_getfield (v := .ref 31) rfl rfl rfl (by decide) rfl ?_
    refine E_iload_n rfl rfl ?_
    refine E_aaload (b := 57) (j := 4) rfl rfl (by decide) (by decide) rfl ?_
    refine E_astore (L2 := [some (.ref 0), some (.int 2), some (.int 4), some (.int a3), some (.int a4), some (.int a5), some (.ref 53), some (.ref 57)]) rfl rfl ?_
    refine E_aload rfl rfl ?_
    refine E_callV (v := some (.int 0)) (As := [.ref 53]) (r0 := []) (cs2 := w0) rfl rfl rfl (Nat.le_of_ble_eq_true rfl) rfl rfl c41_X3_isOtherThanRow (by decide) rfl ?_
    refine E_if (t := 62) (b := false) rfl rfl (by decide) ?_
    refine E_aload rfl rfl ?_
    refine E_callV (v := some (.int 0)) (As := [.ref 57]) (r0 := []) (cs2 := w0) rfl rfl rfl (Nat.le_of_ble_eq_true rfl) rfl rfl c49_X3_isOtherThanRow (by decide) rfl ?_
    refine E_if (t := 62) (b := false) rfl rfl (by decide) ?_
    refine E_aload rfl rfl ?_
    refine E_aload rfl rfl ?_
    refine E_callV (v := some (.int 0)) (As := [.ref 53, .ref 57]) (r0 := []) (cs2 := w0) rfl rfl rfl (Nat.le_of_ble_eq_true rfl) rfl rfl c84_X3_isOfOtherSort (by decide) rfl ?_
    refine E_if (t := 68) (b := true) rfl rfl (by decide) ?_
    refine E_aload rfl rfl ?_
    refine E_callV (v := some (.int 1)) (As := [.ref 53]) (r0 := []) (cs2 := w0) rfl rfl rfl (Nat.le_of_ble_eq_true rfl) rfl rfl c42_X3_isEmpty (by decide) rfl ?_
    refine E_if (t := 84) (b := true) rfl rfl (by decide) ?_
    refine E_aload_n rfl rfl ?_
    refine E_iconst (x := 3) rfl (by decide) ?_
    refine E_callV (v := some (.int (-3))) (As := [.ref 0, .int 3]) (r0 := []) (cs2 := (w0.set 48 (.inl [0, 0, 0, 1, 0, 0, 0, 0]))) rfl rfl rfl (Nat.le_of_ble_eq_true rfl) rfl rfl c32_X5_refuse (by decide) (by simp only [List.length_set]) ?_
    exact E_iret rfl rfl, by
    refine Ef.in (md := mX6_copy) (L := [some (.ref 65), some (.int 2), some (.int 4), some (.int a3), some (.int a4), some (.int a5), none]) rfl (Nat.le_of_ble_eq_true rfl) rfl ?_
    refine E_aload_n rfl rfl ?_
    refine E_iload_n rfl rfl ?_
    refine E_callV (v := some (.int 1)) (As := [.ref 65, .int 2]) (r0 := []) (cs2 := (w0.set 48 (.inl [0, 0, 0, 1, 0, 0, 0, 0]))) rfl rfl rfl (Nat.le_of_ble_eq_true rfl) rfl rfl c43_X6_isShelf (by decide) rfl ?_
    refine E_if (t := 16) (b := false) rfl rfl (by decide) ?_
    refine E_aload_n rfl rfl ?_
    refine E_iload_n rfl rfl ?_
    refine E_callV (v := some (.int 1)) (As := [.ref 65, .int 4]) (r0 := []) (cs2 := (w0.set 48 (.inl [0, 0, 0, 1, 0, 0, 0, 0]))) rfl rfl rfl (Nat.le_of_ble_eq_true rfl) rfl rfl c51_X6_isShelf (by decide) rfl ?_
    refine E_if (t := 22) (b := true) rfl rfl (by decide) ?_
    refine E_aload_n rfl rfl ?_
    refine E_getfield (v := .ref 76) rfl rfl rfl (by decide) rfl ?_
    refine E_iload_n rfl rfl ?_
    refine E_iaload (x := 0) (j := 2) rfl rfl (by decide) (by decide) rfl ?_
    refine E_iconst (x := 2) rfl (by decide) ?_
    refine E_ic (t := 77) (b := false) rfl rfl (by decide) ?_
    refine E_aload_n rfl rfl ?_
    refine E_getfield (v := .ref 76) rfl rfl rfl (by decide) rfl ?_
    refine E_iload_n rfl rfl ?_
    refine E_iaload (x := 0) (j := 4) rfl rfl (by decide) (by decide) rfl ?_
    refine E_iconst (x := 2) rfl (by decide) ?_
    refine E_ic (t := 77) (b := false) rfl rfl (by decide) ?_
    refine E_aload_n rfl rfl ?_
    refine E_getfield (v := .ref 76) rfl rfl rfl (by decide) rfl ?_
    refine E_iload_n rfl rfl ?_
    refine E_iaload (x := 0) (j := 2) rfl rfl (by decide) (by decide) rfl ?_
    refine E_iconst (x := 1) rfl (by decide) ?_
    refine E_ic (t := 84) (b := true) rfl rfl (by decide) ?_
    refine E_aload_n rfl rfl ?_
    refine E_getfield (v := .ref 76) rfl rfl rfl (by decide) rfl ?_
    refine E_iload_n rfl rfl ?_
    refine E_iaload (x := 0) (j := 2) rfl rfl (by decide) (by decide) rfl ?_
    refine E_if (t := 102) (b := true) rfl rfl (by decide) ?_
    refine E_aload_n rfl rfl ?_
    refine E_bipush (x := (-3)) rfl (by decide) ?_
    refine E_callV (v := some (.int (-3))) (As := [.ref 65, .int (-3)]) (r0 := []) (cs2 := ((w0.set 48 (.inl [0, 0, 0, 1, 0, 0, 0, 0])).set 66 (.inl [0, 0, 0, 1, 0, 0, 0, 0]))) rfl rfl rfl (Nat.le_of_ble_eq_true rfl) rfl rfl c35_X6_no (by decide) (by simp only [List.length_set]) ?_
    exact E_iret rfl rfl, (by simp only [List.length_set]; rfl), (by simp only [List.length_set]; rfl), ((ab_szs rfl).trans ((ab_szs rfl).trans rfl)), fun _ => rfl⟩
theorem f_copy_24 (a3 a4 a5 : Int32) : p1_P 3 78 2 137 [.ref 0, .int 2, .int 5, .int a3, .int a4, .int a5] [.ref 65, .int 2, .int 5, .int a3, .int a4, .int a5] :=
  ⟨(-3), (w0.set 48 (.inl [0, 0, 0, 1, 0, 0, 0, 0])), ((w0.set 48 (.inl [0, 0, 0, 1, 0, 0, 0, 0])).set 66 (.inl [0, 0, 0, 1, 0, 0, 0, 0])), by
    refine Ef.in (md := mX5_copy) (L := [some (.ref 0), some (.int 2), some (.int 5), some (.int a3), some (.int a4), some (.int a5), none, none]) rfl (Nat.le_of_ble_eq_true rfl) rfl ?_
    refine E_iload_n rfl rfl ?_
    refine E_callS (v := some (.int 1)) (As := [.int 2]) (r0 := []) (cs2 := w0) rfl rfl rfl (Nat.le_of_ble_eq_true rfl) rfl c14_X5_isShelf (by decide) rfl ?_
    refine E_if (t := 14) (b := false) rfl rfl (by decide) ?_
    refine E_iload_n rfl rfl ?_
    refine E_callS (v := some (.int 1)) (As := [.int 5]) (r0 := []) (cs2 := w0) rfl rfl rfl (Nat.le_of_ble_eq_true rfl) rfl c20_X5_isShelf (by decide) rfl ?_
    refine E_if (t := 20) (b := true) rfl rfl (by decide) ?_
    refine E_aload_n rfl rfl ?_
    refine E_getfield (v := .ref 31) rfl rfl rfl (by decide) rfl ?_
    refine E_iload_n rfl rfl ?_
    refine E_aaload (b := 53) (j := 2) rfl rfl (by decide) (by decide) rfl ?_
    refine E_astore (L2 := [some (.ref 0), some (.int 2), some (.int 5), some (.int a3), some (.int a4), some (.int a5), some (.ref 53), none]) rfl rfl ?_
    refine E_aload_n rfl rfl ?_
    refine E_getfield (v := .ref 31) rfl rfl rfl (by decide) rfl ?_
    refine E_iload_n rfl rfl ?_
    refine E_aaload (b := 59) (j := 5) rfl rfl (by decide) (by decide) rfl ?_
    refine E_astore (L2 := [some (.ref 0), some (.int 2), some (.int 5), some (.int a3), some (.int a4), some (.int a5), some (.ref 53), some (.ref 59)]) rfl rfl ?_
    refine E_aload rfl rfl ?_
    refine E_callV (v := some (.int 0)) (As := [.ref 53]) (r0 := []) (cs2 := w0) rfl rfl rfl (Nat.le_of_ble_eq_true rfl) rfl rfl c41_X3_isOtherThanRow (by decide) rfl ?_
    refine E_if (t := 62) (b := false) rfl rfl (by decide) ?_
    refine E_aload rfl rfl ?_
    refine E_callV (v := some (.int 0)) (As := [.ref 59]) (r0 := []) (cs2 := w0) rfl rfl rfl (Nat.le_of_ble_eq_true rfl) rfl rfl c53_X3_isOtherThanRow (by decide) rfl ?_
    refine E_if (t := 62) (b := false) rfl rfl (by decide) ?_
    refine E_aload rfl rfl ?_
    refine E_aload rfl rfl ?_
    refine E_callV (v := some (.int 0)) (As := [.ref 53, .ref 59]) (r0 := []) (cs2 := w0) rfl rfl rfl (Nat.le_of_ble_eq_true rfl) rfl rfl c85_X3_isOfOtherSort (by decide) rfl ?_
    refine E_if (t := 68) (b := true) rfl rfl (by decide) ?_
    refine E_aload rfl rfl ?_
    refine E_callV (v := some (.int 1)) (As := [.ref 53]) (r0 := []) (cs2 := w0) rfl rfl rfl (Nat.le_of_ble_eq_true rfl) rfl rfl c42_X3_isEmpty (by decide) rfl ?_
    refine E_if (t := 84) (b := true) rfl rfl (by decide) ?_
    refine E_aload_n rfl rfl ?_
    refine E_iconst (x := 3) rfl (by decide) ?_
    refine E_callV (v := some (.int (-3))) (As := [.ref 0, .int 3]) (r0 := []) (cs2 := (w0.set 48 (.inl [0, 0, 0, 1, 0, 0, 0, 0]))) rfl rfl rfl (Nat.le_of_ble_eq_true rfl) rfl rfl c32_X5_refuse (by decide) (by simp only [List.length_set]) ?_
    exact E_iret rfl rfl, by
    refine Ef.in (md := mX6_copy) (L := [some (.ref 65), some (.int 2), some (.int 5), some (.int a3), some (.int a4), some (.int a5), none]) rfl (Nat.le_of_ble_eq_true rfl) rfl ?_
    refine E_aload_n rfl rfl ?_
    refine E_iload_n rfl rfl ?_
    refine E_callV (v := some (.int 1)) (As := [.ref 65, .int 2]) (r0 := []) (cs2 := (w0.set 48 (.inl [0, 0, 0, 1, 0, 0, 0, 0]))) rfl rfl rfl (Nat.le_of_ble_eq_true rfl) rfl rfl c43_X6_isShelf (by decide) rfl ?_
    refine E_if (t := 16) (b := false) rfl rfl (by decide) ?_
    refine E_aload_n rfl rfl ?_
    refine E_iload_n rfl rfl ?_
    refine E_callV (v := some (.int 1)) (As := [.ref 65, .int 5]) (r0 := []) (cs2 := (w0.set 48 (.inl [0, 0, 0, 1, 0, 0, 0, 0]))) rfl rfl rfl (Nat.le_of_ble_eq_true rfl) rfl rfl c55_X6_isShelf (by decide) rfl ?_
    refine E_if (t := 22) (b := true) rfl rfl (by decide) ?_
    refine E_aload_n rfl rfl ?_
    refine E_getfield (v := .ref 76) rfl rfl rfl (by decide) rfl ?_
    refine E_iload_n rfl rfl ?_
    refine E_iaload (x := 0) (j := 2) rfl rfl (by decide) (by decide) rfl ?_
    refine E_iconst (x := 2) rfl (by decide) ?_
    refine E_ic (t := 77) (b := false) rfl rfl (by decide) ?_
    refine E_aload_n rfl rfl ?_
    refine E_getfield (v := .ref 76) rfl rfl rfl (by decide) rfl ?_
    refine E_iload_n rfl rfl ?_
    refine E_iaload (x := 0) (j := 5) rfl rfl (by decide) (by decide) rfl ?_
    refine E_iconst (x := 2) rfl (by decide) ?_
    refine E_ic (t := 77) (b := false) rfl rfl (by decide) ?_
    refine E_aload_n rfl rfl ?_
    refine E_getfield (v := .ref 76) rfl rfl rfl (by decide) rfl ?_
    refine E_iload_n rfl rfl ?_
    refine E_iaload (x := 0) (j := 2) rfl rfl (by decide) (by decide) rfl ?_
    refine E_iconst (x := 1) rfl (by decide) ?_
    refine E_ic (t := 84) (b := true) rfl rfl (by decide) ?_
    refine E_aload_n rfl rfl ?_
    refine E_getfield (v := .ref 76) rfl rfl rfl (by decide) rfl ?_
    refine E_iload_n rfl rfl ?_
    refine E_iaload (x := 0) (j := 2) rfl rfl (by decide) (by decide) rfl ?_
    refine E_if (t := 102) (b := true) rfl rfl (by decide) ?_
    refine E_aload_n rfl rfl ?_
    refine E_bipush (x := (-3)) rfl (by decide) ?_
    refine E_callV (v := some (.int (-3))) (As := [.ref 65, .int (-3)]) (r0 := []) (cs2 := ((w0.set 48 (.inl [0, 0, 0, 1, 0, 0, 0, 0])).set 66 (.inl [0, 0, 0, 1, 0, 0, 0, 0]))) rfl rfl rfl (Nat.le_of_ble_eq_true rfl) rfl rfl c35_X6_no (by decide) (by simp only [List.length_set]) ?_
    exact E_iret rfl rfl, (by simp only [List.length_set]; rfl), (by simp only [List.length_set]; rfl), ((ab_szs rfl).trans ((ab_szs rfl).trans rfl)), fun _ => rfl⟩
theorem f_copy_25 (a3 a4 a5 : Int32) : p1_P 3 78 2 137 [.ref 0, .int 2, .int 6, .int a3, .int a4, .int a5] [.ref 65, .int 2, .int 6, .int a3, .int a4, .int a5] :=
  ⟨(-3), (w0.set 48 (.inl [0, 0, 0, 1, 0, 0, 0, 0])), ((w0.set 48 (.inl [0, 0, 0, 1, 0, 0, 0, 0])).set 66 (.inl [0, 0, 0, 1, 0, 0, 0, 0])), by
    refine Ef.in (md := mX5_copy) (L := [some (.ref 0), some (.int 2), some (.int 6), some (.int a3), some (.int a4), some (.int a5), none, none]) rfl (Nat.le_of_ble_eq_true rfl) rfl ?_
    refine E_iload_n rfl rfl ?_
    refine E_callS (v := some (.int 1)) (As := [.int 2]) (r0 := []) (cs2 := w0) rfl rfl rfl (Nat.le_of_ble_eq_true rfl) rfl c14_X5_isShelf (by decide) rfl ?_
    refine E_if (t := 14) (b := false) rfl rfl (by decide) ?_
    refine E_iload_n rfl rfl ?_
    refine E_callS (v := some (.int 1)) (As := [.int 6]) (r0 := []) (cs2 := w0) rfl rfl rfl (Nat.le_of_ble_eq_true rfl) rfl c22_X5_isShelf (by decide) rfl ?_
    refine E_if (t := 20) (b := true) rfl rfl (by decide) ?_
    refine E_aload_n rfl rfl ?_
    refine E_getfield (v := .ref 31) rfl rfl rfl (by decide) rfl ?_
    refine E_iload_n rfl rfl ?_
    refine E_aaload (b := 53) (j := 2) rfl rfl (by decide) (by decide) rfl ?_
    refine E_astore (L2 := [some (.ref 0), some (.int 2), some (.int 6), some (.int a3), some (.int a4), some (.int a5), some (.ref 53), none]) rfl rfl ?_
    refine E_aload_n rfl rfl ?_
    refine E_getfield (v := .ref 31) rfl rfl rfl (by decide) rfl ?_
    refine E_iload_n rfl rfl ?_
    refine E_aaload (b := 61) (j := 6) rfl rfl (by decide) (by decide) rfl ?_
    refine E_astore (L2 := [some (.ref 0), some (.int 2), some (.int 6), some (.int a3), some (.int a4), some (.int a5), some (.ref 53), some (.ref 61)]) rfl rfl ?_
    refine E_aload rfl rfl ?_
    refine E_callV (v := some (.int 0)) (As := [.ref 53]) (r0 := []) (cs2 := w0) rfl rfl rfl (Nat.le_of_ble_eq_true rfl) rfl rfl c41_X3_isOtherThanRow (by decide) rfl ?_
    refine E_if (t := 62) (b := false) rfl rfl (by decide) ?_
    refine E_aload rfl rfl ?_
    refine E_callV (v := some (.int 0)) (As := [.ref 61]) (r0 := []) (cs2 := w0) rfl rfl rfl (Nat.le_of_ble_eq_true rfl) rfl rfl c57_X3_isOtherThanRow (by decide) rfl ?_
    refine E_if (t := 62) (b := false) rfl rfl (by decide) ?_
    refine E_aload rfl rfl ?_
    refine E_aload rfl rfl ?_
    refine E_callV (v := some (.int 0)) (As := [.ref 53, .ref 61]) (r0 := []) (cs2 := w0) rfl rfl rfl (Nat.le_of_ble_eq_true rfl) rfl rfl c86_X3_isOfOtherSort (by decide) rfl ?_
    refine E_if (t := 68) (b := true) rfl rfl (by decide) ?_
    refine E_aload rfl rfl ?_
    refine E_callV (v := some (.int 1)) (As := [.ref 53]) (r0 := []) (cs2 := w0) rfl rfl rfl (Nat.le_of_ble_eq_true rfl) rfl rfl c42_X3_isEmpty (by decide) rfl ?_
    refine E_if (t := 84) (b := true) rfl rfl (by decide) ?_
    refine E_aload_n rfl rfl ?_
    refine E_iconst (x := 3) rfl (by decide) ?_
    refine E_callV (v := some (.int (-3))) (As := [.ref 0, .int 3]) (r0 := []) (cs2 := (w0.set 48 (.inl [0, 0, 0, 1, 0, 0, 0, 0]))) rfl rfl rfl (Nat.le_of_ble_eq_true rfl) rfl rfl c32_X5_refuse (by decide) (by simp only [List.length_set]) ?_
    exact E_iret rfl rfl, by
    refine Ef.in (md := mX6_copy) (L := [some (.ref 65), some (.int 2), some (.int 6), some (.int a3), some (.int a4), some (.int a5), none]) rfl (Nat.le_of_ble_eq_true rfl) rfl ?_
    refine E_aload_n rfl rfl ?_
    refine E_iload_n rfl rfl ?_
    refine E_callV (v := some (.int 1)) (As := [.ref 65, .int 2]) (r0 := []) (cs2 := (w0.set 48 (.inl [0, 0, 0, 1, 0, 0, 0, 0]))) rfl rfl rfl (Nat.le_of_ble_eq_true rfl) rfl rfl c43_X6_isShelf (by decide) rfl ?_
    refine E_if (t := 16) (b := false) rfl rfl (by decide) ?_
    refine E_aload_n rfl rfl ?_
    refine E_iload_n rfl rfl ?_
    refine E_callV (v := some (.int 1)) (As := [.ref 65, .int 6]) (r0 := []) (cs2 := (w0.set 48 (.inl [0, 0, 0, 1, 0, 0, 0, 0]))) rfl rfl rfl (Nat.le_of_ble_eq_true rfl) rfl rfl c59_X6_isShelf (by decide) rfl ?_
    refine E_if (t := 22) (b := true) rfl rfl (by decide) ?_
    refine E_aload_n rfl rfl ?_
    refine E_getfield (v := .ref 76) rfl rfl rfl (by decide) rfl ?_
    refine E_iload_n rfl rfl ?_
    refine E_iaload (x := 0) (j := 2) rfl rfl (by decide) (by decide) rfl ?_
    refine E_iconst (x := 2) rfl (by decide) ?_
    refine E_ic (t := 77) (b := false) rfl rfl (by decide) ?_
    refine E_aload_n rfl rfl ?_
    refine E_getfield (v := .ref 76) rfl rfl rfl (by decide) rfl ?_
    refine E_iload_n rfl rfl ?_
    refine E_iaload (x := 0) (j := 6) rfl rfl (by decide) (by decide) rfl ?_
    refine E_iconst (x := 2) rfl (by decide) ?_
    refine E_ic (t := 77) (b := false) rfl rfl (by decide) ?_
    refine E_aload_n rfl rfl ?_
    refine E_getfield (v := .ref 76) rfl rfl rfl (by decide) rfl ?_
    refine E_iload_n rfl rfl ?_
    refine E_iaload (x := 0) (j := 2) rfl rfl (by decide) (by decide) rfl ?_
    refine E_iconst (x := 1) rfl (by decide) ?_
    refine E_ic (t := 84) (b := true) rfl rfl (by decide) ?_
    refine E_aload_n rfl rfl ?_
    refine E_getfield (v := .ref 76) rfl rfl rfl (by decide) rfl ?_
    refine E_iload_n rfl rfl ?_
    refine E_iaload (x := 0) (j := 2) rfl rfl (by decide) (by decide) rfl ?_
    refine E_if (t := 102) (b := true) rfl rfl (by decide) ?_
    refine E_aload_n rfl rfl ?_
    refine E_bipush (x := (-3)) rfl (by decide) ?_
    refine E_callV (v := some (.int (-3))) (As := [.ref 65, .int (-3)]) (r0 := []) (cs2 := ((w0.set 48 (.inl [0, 0, 0, 1, 0, 0, 0, 0])).set 66 (.inl [0, 0, 0, 1, 0, 0, 0, 0]))) rfl rfl rfl (Nat.le_of_ble_eq_true rfl) rfl rfl c35_X6_no (by decide) (by simp only [List.length_set]) ?_
    exact E_iret rfl rfl, (by simp only [List.length_set]; rfl), (by simp only [List.length_set]; rfl), ((ab_szs rfl).trans ((ab_szs rfl).trans rfl)), fun _ => rfl⟩
theorem f_copy_26 (a3 a4 a5 : Int32) : p1_P 3 78 2 137 [.ref 0, .int 2, .int 7, .int a3, .int a4, .int a5] [.ref 65, .int 2, .int 7, .int a3, .int a4, .int a5] :=
  ⟨(-3), (w0.set 48 (.inl [0, 0, 0, 1, 0, 0, 0, 0])), ((w0.set 48 (.inl [0, 0, 0, 1, 0, 0, 0, 0])).set 66 (.inl [0, 0, 0, 1, 0, 0, 0, 0])), by
    refine Ef.in (md := mX5_copy) (L := [some (.ref 0), some (.int 2), some (.int 7), some (.int a3), some (.int a4), some (.int a5), none, none]) rfl (Nat.le_of_ble_eq_true rfl) rfl ?_
    refine E_iload_n rfl rfl ?_
    refine E_callS (v := some (.int 1)) (As := [.int 2]) (r0 := []) (cs2 := w0) rfl rfl rfl (Nat.le_of_ble_eq_true rfl) rfl c14_X5_isShelf (by decide) rfl ?_
    refine E_if (t := 14) (b := false) rfl rfl (by decide) ?_
    refine E_iload_n rfl rfl ?_
    refine E_callS (v := some (.int 1)) (As := [.int 7]) (r0 := []) (cs2 := w0) rfl rfl rfl (Nat.le_of_ble_eq_true rfl) rfl c24_X5_isShelf (by decide) rfl ?_
    refine E_if (t := 20) (b := true) rfl rfl (by decide) ?_
    refine E_aload_n rfl rfl ?_
    refine E_getfield (v := .ref 31) rfl rfl rfl (by decide) rfl ?_
    refine E_iload_n rfl rfl ?_
    refine E_aaload (b := 53) (j := 2) rfl rfl (by decide) (by decide) rfl ?_
    refine E_astore (L2 := [some (.ref 0), some (.int 2), some (.int 7), some (.int a3), some (.int a4), some (.int a5), some (.ref 53), none]) rfl rfl ?_
    refine E_aload_n rfl rfl ?_
    refine E_getfield (v := .ref 31) rfl rfl rfl (by decide) rfl ?_
    refine E_iload_n rfl rfl ?_
    refine E_aaload (b := 63) (j := 7) rfl rfl (by decide) (by decide) rfl ?_
    refine E_astore (L2 := [some (.ref 0), some (.int 2), some (.int 7), some (.int a3), some (.int a4), some (.int a5), some (.ref 53), some (.ref 63)]) rfl rfl ?_
    refine E_aload rfl rfl ?_
    refine E_callV (v := some (.int 0)) (As := [.ref 53]) (r0 := []) (cs2 := w0) rfl rfl rfl (Nat.le_of_ble_eq_true rfl) rfl rfl c41_X3_isOtherThanRow (by decide) rfl ?_
    refine E_if (t := 62) (b := false) rfl rfl (by decide) ?_
    refine E_aload rfl rfl ?_
    refine E_callV (v := some (.int 0)) (As := [.ref 63]) (r0 := []) (cs2 := w0) rfl rfl rfl (Nat.le_of_ble_eq_true rfl) rfl rfl c61_X3_isOtherThanRow (by decide) rfl ?_
    refine E_if (t := 62) (b := false) rfl rfl (by decide) ?_
    refine E_aload rfl rfl ?_
    refine E_aload rfl rfl ?_
    refine E_callV (v := some (.int 0)) (As := [.ref 53, .ref 63]) (r0 := []) (cs2 := w0) rfl rfl rfl (Nat.le_of_ble_eq_true rfl) rfl rfl c87_X3_isOfOtherSort (by decide) rfl ?_
    refine E_if (t := 68) (b := true) rfl rfl (by decide) ?_
    refine E_aload rfl rfl ?_
    refine E_callV (v := some (.int 1)) (As := [.ref 53]) (r0 := []) (cs2 := w0) rfl rfl rfl (Nat.le_of_ble_eq_true rfl) rfl rfl c42_X3_isEmpty (by decide) rfl ?_
    refine E_if (t := 84) (b := true) rfl rfl (by decide) ?_
    refine E_aload_n rfl rfl ?_
    refine E_iconst (x := 3) rfl (by decide) ?_
    refine E_callV (v := some (.int (-3))) (As := [.ref 0, .int 3]) (r0 := []) (cs2 := (w0.set 48 (.inl [0, 0, 0, 1, 0, 0, 0, 0]))) rfl rfl rfl (Nat.le_of_ble_eq_true rfl) rfl rfl c32_X5_refuse (by decide) (by simp only [List.length_set]) ?_
    exact E_iret rfl rfl, by
    refine Ef.in (md := mX6_copy) (L := [some (.ref 65), some (.int 2), some (.int 7), some (.int a3), some (.int a4), some (.int a5), none]) rfl (Nat.le_of_ble_eq_true rfl) rfl ?_
    refine E_aload_n rfl rfl ?_
    refine E_iload_n rfl rfl ?_
    refine E_callV (v := some (.int 1)) (As := [.ref 65, .int 2]) (r0 := []) (cs2 := (w0.set 48 (.inl [0, 0, 0, 1, 0, 0, 0, 0]))) rfl rfl rfl (Nat.le_of_ble_eq_true rfl) rfl rfl c43_X6_isShelf (by decide) rfl ?_
    refine E_if (t := 16) (b := false) rfl rfl (by decide) ?_
    refine E_aload_n rfl rfl ?_
    refine E_iload_n rfl rfl ?_
    refine E_callV (v := some (.int 1)) (As := [.ref 65, .int 7]) (r0 := []) (cs2 := (w0.set 48 (.inl [0, 0, 0, 1, 0, 0, 0, 0]))) rfl rfl rfl (Nat.le_of_ble_eq_true rfl) rfl rfl c63_X6_isShelf (by decide) rfl ?_
    refine E_if (t := 22) (b := true) rfl rfl (by decide) ?_
    refine E_aload_n rfl rfl ?_
    refine E_getfield (v := .ref 76) rfl rfl rfl (by decide) rfl ?_
    refine E_iload_n rfl rfl ?_
    refine E_iaload (x := 0) (j := 2) rfl rfl (by decide) (by decide) rfl ?_
    refine E_iconst (x := 2) rfl (by decide) ?_
    refine E_ic (t := 77) (b := false) rfl rfl (by decide) ?_
    refine E_aload_n rfl rfl ?_
    refine E_getfield (v := .ref 76) rfl rfl rfl (by decide) rfl ?_
    refine E_iload_n rfl rfl ?_
    refine E_iaload (x := 0) (j := 7) rfl rfl (by decide) (by decide) rfl ?_
    refine E_iconst (x := 2) rfl (by decide) ?_
    refine E_ic (t := 77) (b := false) rfl rfl (by decide) ?_
    refine E_aload_n rfl rfl ?_
    refine E_getfield (v := .ref 76) rfl rfl rfl (by decide) rfl ?_
    refine E_iload_n rfl rfl ?_
    refine E_iaload (x := 0) (j := 2) rfl rfl (by decide) (by decide) rfl ?_
    refine E_iconst (x := 1) rfl (by decide) ?_
    refine E_ic (t := 84) (b := true) rfl rfl (by decide) ?_
    refine E_aload_n rfl rfl ?_
    refine E_getfield (v := .ref 76) rfl rfl rfl (by decide) rfl ?_
    refine E_iload_n rfl rfl ?_
    refine E_iaload (x := 0) (j := 2) rfl rfl (by decide) (by decide) rfl ?_
    refine E_if (t := 102) (b := true) rfl rfl (by decide) ?_
    refine E_aload_n rfl rfl ?_
    refine E_bipush (x := (-3)) rfl (by decide) ?_
    refine E_callV (v := some (.int (-3))) (As := [.ref 65, .int (-3)]) (r0 := []) (cs2 := ((w0.set 48 (.inl [0, 0, 0, 1, 0, 0, 0, 0])).set 66 (.inl [0, 0, 0, 1, 0, 0, 0, 0]))) rfl rfl rfl (Nat.le_of_ble_eq_true rfl) rfl rfl c35_X6_no (by decide) (by simp only [List.length_set]) ?_
    exact E_iret rfl rfl, (by simp only [List.length_set]; rfl), (by simp only [List.length_set]; rfl), ((ab_szs rfl).trans ((ab_szs rfl).trans rfl)), fun _ => rfl⟩
theorem f_copy_27 (a3 a4 a5 : Int32) : p1_P 3 78 2 137 [.ref 0, .int 3, .int 0, .int a3, .int a4, .int a5] [.ref 65, .int 3, .int 0, .int a3, .int a4, .int a5] :=
  ⟨(-3), (w0.set 48 (.inl [0, 0, 0, 1, 0, 0, 0, 0])), ((w0.set 48 (.inl [0, 0, 0, 1, 0, 0, 0, 0])).set 66 (.inl [0, 0, 0, 1, 0, 0, 0, 0])), by
    refine Ef.in (md := mX5_copy) (L := [some (.ref 0), some (.int 3), some (.int 0), some (.int a3), some (.int a4), some (.int a5), none, none]) rfl (Nat.le_of_ble_eq_true rfl) rfl ?_
    refine E_iload_n rfl rfl ?_
    refine E_callS (v := some (.int 1)) (As := [.int 3]) (r0 := []) (cs2 := w0) rfl rfl rfl (Nat.le_of_ble_eq_true rfl) rfl c16_X5_isShelf (by decide) rfl ?_
    refine E_if (t := 14) (b := false) rfl rfl (by decide) ?_
    refine E_iload_n rfl rfl ?_
    refine E_callS (v := some (.int 1)) (As := [.int 0]) (r0 := []) (cs2 := w0) rfl rfl rfl (Nat.le_of_ble_eq_true rfl) rfl c10_X5_isShelf (by decide) rfl ?_
    refine E_if (t := 20) (b := true) rfl rfl (by decide) ?_
    refine E_aload_n rfl rfl ?_
    refine E_getfield (v := .ref 31) rfl rfl rfl (by decide) rfl ?_
    refine E_iload_n rfl rfl ?_
    refine E_aaload (b := 55) (j := 3) rfl rfl (by decide) (by decide) rfl ?_
    refine E_astore (L2 := [some (.ref 0), some (.int 3), some (.int 0), some (.int a3), some (.int a4), some (.int a5), some (.ref 55), none]) rfl rfl ?_
    refine E_aload_n rfl rfl ?_
    refine E_getfield (v := .ref 31) rfl rfl rfl (by decide) rfl ?_
    refine E_iload_n rfl rfl ?_
    refine E_aaload (b := 49) (j := 0) rfl rfl (by decide) (by decide) rfl ?_
    refine E_astore (L2 := [some (.ref 0), some (.int 3), some (.int 0), some (.int a3), some (.int a4), some (.int a5), some (.ref 55), some (.ref 49)]) rfl rfl ?_
    refine E_aload rfl rfl ?_
    refine E_callV (v := some (.int 0)) (As := [.ref 55]) (r0 := []) (cs2 := w0) rfl rfl rfl (Nat.le_of_ble_eq_true rfl) rfl rfl c45_X3_isOtherThanRow (by decide) rfl ?_
    refine E_if (t := 62) (b := false) rfl rfl (by decide) ?_
    refine E_aload rfl rfl ?_
    refine E_callV (v := some (.int 0)) (As := [.ref 49]) (r0 := []) (cs2 := w0) rfl rfl rfl (Nat.le_of_ble_eq_true rfl) rfl rfl c30_X3_isOtherThanRow (by decide) rfl ?_
    refine E_if (t := 62) (b := false) rfl rfl (by decide) ?_
    refine E_aload rfl rfl ?_
    refine E_aload rfl rfl ?_
    refine E_callV (v := some (.int 0)) (As := [.ref 55, .ref 49]) (r0 := []) (cs2 := w0) rfl rfl rfl (Nat.le_of_ble_eq_true rfl) rfl rfl c88_X3_isOfOtherSort (by decide) rfl ?_
    refine E_if (t := 68) (b := true) rfl rfl (by decide) ?_
    refine E_aload rfl rfl ?_
    refine E_callV (v := some (.int 1)) (As := [.ref 55]) (r0 := []) (cs2 := w0) rfl rfl rfl (Nat.le_of_ble_eq_true rfl) rfl rfl c46_X3_isEmpty (by decide) rfl ?_
    refine E_if (t := 84) (b := true) rfl rfl (by decide) ?_
    refine E_aload_n rfl rfl ?_
    refine E_iconst (x := 3) rfl (by decide) ?_
    refine E_callV (v := some (.int (-3))) (As := [.ref 0, .int 3]) (r0 := []) (cs2 := (w0.set 48 (.inl [0, 0, 0, 1, 0, 0, 0, 0]))) rfl rfl rfl (Nat.le_of_ble_eq_true rfl) rfl rfl c32_X5_refuse (by decide) (by simp only [List.length_set]) ?_
    exact E_iret rfl rfl, by
    refine Ef.in (md := mX6_copy) (L := [some (.ref 65), some (.int 3), some (.int 0), some (.int a3), some (.int a4), some (.int a5), none]) rfl (Nat.le_of_ble_eq_true rfl) rfl ?_
    refine E_aload_n rfl rfl ?_
    refine E_iload_n rfl rfl ?_
    refine E_callV (v := some (.int 1)) (As := [.ref 65, .int 3]) (r0 := []) (cs2 := (w0.set 48 (.inl [0, 0, 0, 1, 0, 0, 0, 0]))) rfl rfl rfl (Nat.le_of_ble_eq_true rfl) rfl rfl c47_X6_isShelf (by decide) rfl ?_
    refine E_if (t := 16) (b := false) rfl rfl (by decide) ?_
    refine E_aload_n rfl rfl ?_
    refine E_iload_n rfl rfl ?_
    refine E_callV (v := some (.int 1)) (As := [.ref 65, .int 0]) (r0 := []) (cs2 := (w0.set 48 (.inl [0, 0, 0, 1, 0, 0, 0, 0]))) rfl rfl rfl (Nat.le_of_ble_eq_true rfl) rfl rfl c34_X6_isShelf (by decide) rfl ?_
    refine E_if (t := 22) (b := true) rfl rfl (by decide) ?_
    refine E_aload_n rfl rfl ?_
    refine E_getfield (v := .ref 76) rfl rfl rfl (by decide) rfl ?_
    refine E_iload_n rfl rfl ?_
    refine E_iaload (x := 0) (j := 3) rfl rfl (by decide) (by decide) rfl ?_
    refine E_iconst (x := 2) rfl (by decide) ?_
    refine E_ic (t := 77) (b := false) rfl rfl (by decide) ?_
    refine E_aload_n rfl rfl ?_
    refine E_getfield (v := .ref 76) rfl rfl rfl (by decide) rfl ?_
    refine E_iload_n rfl rfl ?_
    refine E_iaload (x := 0) (j := 0) rfl rfl (by decide) (by decide) rfl ?_
    refine E_iconst (x := 2) rfl (by decide) ?_
    refine E_ic (t := 77) (b := false) rfl rfl (by decide) ?_
    refine E_aload_n rfl rfl ?_
    refine E_getfield (v := .ref 76) rfl rfl rfl (by decide) rfl ?_
    refine E_iload_n rfl rfl ?_
    refine E_iaload (x := 0) (j := 3) rfl rfl (by decide) (by decide) rfl ?_
    refine E_iconst (x := 1) rfl (by decide) ?_
    refine E_ic (t := 84) (b := true) rfl rfl (by decide) ?_
    refine E_aload_n rfl rfl ?_
    refine E_getfield (v := .ref 76) rfl rfl rfl (by decide) rfl ?_
    refine E_iload_n rfl rfl ?_
    refine E_iaload (x := 0) (j := 3) rfl rfl (by decide) (by decide) rfl ?_
    refine E_if (t := 102) (b := true) rfl rfl (by decide) ?_
    refine E_aload_n rfl rfl ?_
    refine E_bipush (x := (-3)) rfl (by decide) ?_
    refine E_callV (v := some (.int (-3))) (As := [.ref 65, .int (-3)]) (r0 := []) (cs2 := ((w0.set 48 (.inl [0, 0, 0, 1, 0, 0, 0, 0])).set 66 (.inl [0, 0, 0, 1, 0, 0, 0, 0]))) rfl rfl rfl (Nat.le_of_ble_eq_true rfl) rfl rfl c35_X6_no (by decide) (by simp only [List.length_set]) ?_
    exact E_iret rfl rfl, (by simp only [List.length_set]; rfl), (by simp only [List.length_set]; rfl), ((ab_szs rfl).trans ((ab_szs rfl).trans rfl)), fun _ => rfl⟩
theorem f_copy_28 (a3 a4 a5 : Int32) : p1_P 3 78 2 137 [.ref 0, .int 3, .int 1, .int a3, .int a4, .int a5] [.ref 65, .int 3, .int 1, .int a3, .int a4, .int a5] :=
  ⟨(-3), (w0.set 48 (.inl [0, 0, 0, 1, 0, 0, 0, 0])), ((w0.set 48 (.inl [0, 0, 0, 1, 0, 0, 0, 0])).set 66 (.inl [0, 0, 0, 1, 0, 0, 0, 0])), by
    refine Ef.in (md := mX5_copy) (L := [some (.ref 0), some (.int 3), some (.int 1), some (.int a3), some (.int a4), some (.int a5), none, none]) rfl (Nat.le_of_ble_eq_true rfl) rfl ?_
    refine E_iload_n rfl rfl ?_
    refine E_callS (v := some (.int 1)) (As := [.int 3]) (r0 := []) (cs2 := w0) rfl rfl rfl (Nat.le_of_ble_eq_true rfl) rfl c16_X5_isShelf (by decide) rfl ?_
    refine E_if (t := 14) (b := false) rfl rfl (by decide) ?_
    refine E_iload_n rfl rfl ?_
    refine E_callS (v := some (.int 1)) (As := [.int 1]) (r0 := []) (cs2 := w0) rfl rfl rfl (Nat.le_of_ble_eq_true rfl) rfl c12_X5_isShelf (by decide) rfl ?_
    refine E_if (t := 20) (b := true) rfl rfl (by decide) ?_
    refine E_aload_n rfl rfl ?_
    refine E_getfield (v := .ref 31) rfl rfl rfl (by decide) rfl ?_
    refine E_iload_n rfl rfl ?_
    refine E_aaload (b := 55) (j := 3) rfl rfl (by decide) (by decide) rfl ?_
    refine E_astore (L2 := [some (.ref 0), some (.int 3), some (.int 1), some (.int a3), some (.int a4), some (.int a5), some (.ref 55), none]) rfl rfl ?_
    refine E_aload_n rfl rfl ?_
    refine E_getfield (v := .ref 31) rfl rfl rfl (by decide) rfl ?_
    refine E_iload_n rfl rfl ?_
    refine E_aaload (b := 51) (j := 1) rfl rfl (by decide) (by decide) rfl ?_
    refine E_astore (L2 := [some (.ref 0), some (.int 3), some (.int 1), some (.int a3), some (.int a4), some (.int a5), some (.ref 55), some (.ref 51)]) rfl rfl ?_
    refine E_aload rfl rfl ?_
    refine E_callV (v := some (.int 0)) (As := [.ref 55]) (r0 := []) (cs2 := w0) rfl rfl rfl (Nat.le_of_ble_eq_true rfl) rfl rfl c45_X3_isOtherThanRow (by decide) rfl ?_
    refine E_if (t := 62) (b := false) rfl rfl (by decide) ?_
    refine E_aload rfl rfl ?_
    refine E_callV (v := some (.int 0)) (As := [.ref 51]) (r0 := []) (cs2 := w0) rfl rfl rfl (Nat.le_of_ble_eq_true rfl) rfl rfl c37_X3_isOtherThanRow (by decide) rfl ?_
    refine E_if (t := 62) (b := false) rfl rfl (by decide) ?_
    refine E_aload rfl rfl ?_
    refine E_aload rfl rfl ?_
    refine E_callV (v := some (.int 0)) (As := [.ref 55, .ref 51]) (r0 := []) (cs2 := w0) rfl rfl rfl (Nat.le_of_ble_eq_true rfl) rfl rfl c89_X3_isOfOtherSort (by decide) rfl ?_
    refine E_if (t := 68) (b := true) rfl rfl (by decide) ?_
    refine E_aload rfl rfl ?_
    refine E_callV (v := some (.int 1)) (As := [.ref 55]) (r0 := []) (cs2 := w0) rfl rfl rfl (Nat.le_of_ble_eq_true rfl) rfl rfl c46_X3_isEmpty (by decide) rfl ?_
    refine E_if (t := 84) (b := true) rfl rfl (by decide) ?_
    refine E_aload_n rfl rfl ?_
    refine E_iconst (x := 3) rfl (by decide) ?_
    refine E_callV (v := some (.int (-3))) (As := [.ref 0, .int 3]) (r0 := []) (cs2 := (w0.set 48 (.inl [0, 0, 0, 1, 0, 0, 0, 0]))) rfl rfl rfl (Nat.le_of_ble_eq_true rfl) rfl rfl c32_X5_refuse (by decide) (by simp only [List.length_set]) ?_
    exact E_iret rfl rfl, by
    refine Ef.in (md := mX6_copy) (L := [some (.ref 65), some (.int 3), some (.int 1), some (.int a3), some (.int a4), some (.int a5), none]) rfl (Nat.le_of_ble_eq_true rfl) rfl ?_
    refine E_aload_n rfl rfl ?_
    refine E_iload_n rfl rfl ?_
    refine E_callV (v := some (.int 1)) (As := [.ref 65, .int 3]) (r0 := []) (cs2 := (w0.set 48 (.inl [0, 0, 0, 1, 0, 0, 0, 0]))) rfl rfl rfl (Nat.le_of_ble_eq_true rfl) rfl rfl c47_X6_isShelf (by decide) rfl ?_
    refine E_if (t := 16) (b := false) rfl rfl (by decide) ?_
    refine E_aload_n rfl rfl ?_
    refine E_iload_n rfl rfl ?_
    refine E_callV (v := some (.int 1)) (As := [.ref 65, .int 1]) (r0 := []) (cs2 := (w0.set 48 (.inl [0, 0, 0, 1, 0, 0, 0, 0]))) rfl rfl rfl (Nat.le_of_ble_eq_true rfl) rfl rfl c39_X6_isShelf (by decide) rfl ?_
    refine E_if (t := 22) (b := true) rfl rfl (by decide) ?_
    refine E_aload_n rfl rfl ?_
    refine E_getfield (v := .ref 76) rfl rfl rfl (by decide) rfl ?_
    refine E_iload_n rfl rfl ?_
    refine E_iaload (x := 0) (j := 3) rfl rfl (by decide) (by decide) rfl ?_
    refine E_iconst (x := 2) rfl (by decide) ?_
    refine E_ic (t := 77) (b := false) rfl rfl (by decide) ?_
    refine E_aload_n rfl rfl ?_
    refine E_getfield (v := .ref 76) rfl rfl rfl (by decide) rfl ?_
    refine E_iload_n rfl rfl ?_
    refine E_iaload (x := 0) (j := 1) rfl rfl (by decide) (by decide) rfl ?_
    refine E_iconst (x := 2) rfl (by decide) ?_
    refine E_ic (t := 77) (b := false) rfl rfl (by decide) ?_
    refine E_aload_n rfl rfl ?_
    refine E_getfield (v := .ref 76) rfl rfl rfl (by decide) rfl ?_
    refine E_iload_n rfl rfl ?_
    refine E_iaload (x := 0) (j := 3) rfl rfl (by decide) (by decide) rfl ?_
    refine E_iconst (x := 1) rfl (by decide) ?_
    refine E_ic (t := 84) (b := true) rfl rfl (by decide) ?_
    refine E_aload_n rfl rfl ?_
    refine E_getfield (v := .ref 76) rfl rfl rfl (by decide) rfl ?_
    refine E_iload_n rfl rfl ?_
    refine E_iaload (x := 0) (j := 3) rfl rfl (by decide) (by decide) rfl ?_
    refine E_if (t := 102) (b := true) rfl rfl (by decide) ?_
    refine E_aload_n rfl rfl ?_
    refine E_bipush (x := (-3)) rfl (by decide) ?_
    refine E_callV (v := some (.int (-3))) (As := [.ref 65, .int (-3)]) (r0 := []) (cs2 := ((w0.set 48 (.inl [0, 0, 0, 1, 0, 0, 0, 0])).set 66 (.inl [0, 0, 0, 1, 0, 0, 0, 0]))) rfl rfl rfl (Nat.le_of_ble_eq_true rfl) rfl rfl c35_X6_no (by decide) (by simp only [List.length_set]) ?_
    exact E_iret rfl rfl, (by simp only [List.length_set]; rfl), (by simp only [List.length_set]; rfl), ((ab_szs rfl).trans ((ab_szs rfl).trans rfl)), fun _ => rfl⟩
theorem f_copy_29 (a3 a4 a5 : Int32) : p1_P 3 78 2 137 [.ref 0, .int 3, .int 2, .int a3, .int a4, .int a5] [.ref 65, .int 3, .int 2, .int a3, .int a4, .int a5] :=
  ⟨(-3), (w0.set 48 (.inl [0, 0, 0, 1, 0, 0, 0, 0])), ((w0.set 48 (.inl [0, 0, 0, 1, 0, 0, 0, 0])).set 66 (.inl [0, 0, 0, 1, 0, 0, 0, 0])), by
    refine Ef.in (md := mX5_copy) (L := [some (.ref 0), some (.int 3), some (.int 2), some (.int a3), some (.int a4), some (.int a5), none, none]) rfl (Nat.le_of_ble_eq_true rfl) rfl ?_
    refine E_iload_n rfl rfl ?_
    refine E_callS (v := some (.int 1)) (As := [.int 3]) (r0 := []) (cs2 := w0) rfl rfl rfl (Nat.le_of_ble_eq_true rfl) rfl c16_X5_isShelf (by decide) rfl ?_
    refine E_if (t := 14) (b := false) rfl rfl (by decide) ?_
    refine E_iload_n rfl rfl ?_
    refine E_callS (v := some (.int 1)) (As := [.int 2]) (r0 := []) (cs2 := w0) rfl rfl rfl (Nat.le_of_ble_eq_true rfl) rfl c14_X5_isShelf (by decide) rfl ?_
    refine E_if (t := 20) (b := true) rfl rfl (by decide) ?_
    refine E_aload_n rfl rfl ?_
    refine E_getfield (v := .ref 31) rfl rfl rfl (by decide) rfl ?_
    refine E_iload_n rfl rfl ?_
    refine E_aaload (b := 55) (j := 3) rfl rfl (by decide) (by decide) rfl ?_
    refine E_astore (L2 := [some (.ref 0), some (.int 3), some (.int 2), some (.int a3), some (.int a4), some (.int a5), some (.ref 55), none]) rfl rfl ?_
    refine E_aload_n rfl rfl ?_
    refine E_getfield (v := .ref 31) rfl rfl rfl (by decide) rfl ?_
    refine E_iload_n rfl rfl ?_
    refine E_aaload (b := 53) (j := 2) rfl rfl (by decide) (by decide) rfl ?_
    refine E_astore (L2 := [some (.ref 0), some (.int 3), some (.int 2), some (.int a3), some (.int a4), some (.int a5), some (.ref 55), some (.ref 53)]) rfl rfl ?_
    refine E_aload rfl rfl ?_
    refine E_callV (v := some (.int 0)) (As := [.ref 55]) (r0 := []) (cs2 := w0) rfl rfl rfl (Nat.le_of_ble_eq_true rfl) rfl rfl c45_X3_isOtherThanRow (by decide) rfl ?_
    refine E_if (t := 62) (b := false) rfl rfl (by decide) ?_
    refine E_aload rfl rfl ?_
    refine E_callV (v := some (.int 0)) (As := [.ref 53]) (r0 := []) (cs2 := w0) rfl rfl rfl (Nat.le_of_ble_eq_true rfl) rfl rfl c41_X3_isOtherThanRow (by decide) rfl ?_
    refine E_if (t := 62) (b := false) rfl rfl (by decide) ?_
    refine E_aload rfl rfl ?_
    refine E_aload rfl rfl ?_
    refine E_callV (v := some (.int 0)) (As := [.ref 55, .ref 53]) (r0 := []) (cs2 := w0) rfl rfl rfl (Nat.le_of_ble_eq_true rfl) rfl rfl c90_X3_isOfOtherSort (by decide) rfl ?_
    refine E_if (t := 68) (b := true) rfl rfl (by decide) ?_
    refine E_aload rfl rfl ?_
    refine E_callV (v := some (.int 1)) (As := [.ref 55]) (r0 := []) (cs2 := w0) rfl rfl rfl (Nat.le_of_ble_eq_true rfl) rfl rfl c46_X3_isEmpty (by decide) rfl ?_
    refine E_if (t := 84) (b := true) rfl rfl (by decide) ?_
    refine E_aload_n rfl rfl ?_
    refine E_iconst (x := 3) rfl (by decide) ?_
    refine E_callV (v := some (.int (-3))) (As := [.ref 0, .int 3]) (r0 := []) (cs2 := (w0.set 48 (.inl [0, 0, 0, 1, 0, 0, 0, 0]))) rfl rfl rfl (Nat.le_of_ble_eq_true rfl) rfl rfl c32_X5_refuse (by decide) (by simp only [List.length_set]) ?_
    exact E_iret rfl rfl, by
    refine Ef.in (md := mX6_copy) (L := [some (.ref 65), some (.int 3), some (.int 2), some (.int a3), some (.int a4), some (.int a5), none]) rfl (Nat.le_of_ble_eq_true rfl) rfl ?_
    refine E_aload_n rfl rfl ?_
    refine E_iload_n rfl rfl ?_
    refine E_callV (v := some (.int 1)) (As := [.ref 65, .int 3]) (r0 := []) (cs2 := (w0.set 48 (.inl [0, 0, 0, 1, 0, 0, 0, 0]))) rfl rfl rfl (Nat.le_of_ble_eq_true rfl) rfl rfl c47_X6_isShelf (by decide) rfl ?_
    refine E_if (t := 16) (b := false) rfl rfl (by decide) ?_
    refine E_aload_n rfl rfl ?_
    refine E_iload_n rfl rfl ?_
    refine E_callV (v := some (.int 1)) (As := [.ref 65, .int 2]) (r0 := []) (cs2 := (w0.set 48 (.inl [0, 0, 0, 1, 0, 0, 0, 0]))) rfl rfl rfl (Nat.le_of_ble_eq_true rfl) rfl rfl c43_X6_isShelf (by decide) rfl ?_
    refine E_if (t := 22) (b := true) rfl rfl (by decide) ?_
    refine E_aload_n rfl rfl ?_
    refine E_getfield (v := .ref 76) rfl rfl rfl (by decide) rfl ?_
    refine E_iload_n rfl rfl ?_
    refine E_iaload (x := 0) (j := 3) rfl rfl (by decide) (by decide) rfl ?_
    refine E_iconst (x := 2) rfl (by decide) ?_
    refine E_ic (t := 77) (b := false) rfl rfl (by decide) ?_
    refine E_aload_n rfl rfl ?_
    refine E_getfield (v := .ref 76) rfl rfl rfl (by decide) rfl ?_
    refine E_iload_n rfl rfl ?_
    refine E_iaload (x := 0) (j := 2) rfl rfl (by decide) (by decide) rfl ?_
    refine E_iconst (x := 2) rfl (by decide) ?_
    refine E_ic (t := 77) (b := false) rfl rfl (by decide) ?_
    refine E_aload_n rfl rfl ?_
    refine E_getfield (v := .ref 76) rfl rfl rfl (by decide) rfl ?_
    refine E_iload_n rfl rfl ?_
    refine E_iaload (x := 0) (j := 3) rfl rfl (by decide) (by decide) rfl ?_
    refine E_iconst (x := 1) rfl (by decide) ?_
    refine E_ic (t := 84) (b := true) rfl rfl (by decide) ?_
    refine E_aload_n rfl rfl ?_
    refine E_getfield (v := .ref 76) rfl rfl rfl (by decide) rfl ?_
    refine E_iload_n rfl rfl ?_
    refine E_iaload (x := 0) (j := 3) rfl rfl (by decide) (by decide) rfl ?_
    refine E_if (t := 102) (b := true) rfl rfl (by decide) ?_
    refine E_aload_n rfl rfl ?_
    refine E_bipush (x := (-3)) rfl (by decide) ?_
    refine E_callV (v := some (.int (-3))) (As := [.ref 65, .int (-3)]) (r0 := []) (cs2 := ((w0.set 48 (.inl [0, 0, 0, 1, 0, 0, 0, 0])).set 66 (.inl [0, 0, 0, 1, 0, 0, 0, 0]))) rfl rfl rfl (Nat.le_of_ble_eq_true rfl) rfl rfl c35_X6_no (by decide) (by simp only [List.length_set]) ?_
    exact E_iret rfl rfl, (by simp only [List.length_set]; rfl), (by simp only [List.length_set]; rfl), ((ab_szs rfl).trans ((ab_szs rfl).trans rfl)), fun _ => rfl⟩
theorem f_copy_30 (a3 a4 a5 : Int32) : p1_P 3 78 2 137 [.ref 0, .int 3, .int 3, .int a3, .int a4, .int a5] [.ref 65, .int 3, .int 3, .int a3, .int a4, .int a5] :=
  ⟨(-3), (w0.set 48 (.inl [0, 0, 0, 1, 0, 0, 0, 0])), ((w0.set 48 (.inl [0, 0, 0, 1, 0, 0, 0, 0])).set 66 (.inl [0, 0, 0, 1, 0, 0, 0, 0])), by
    refine Ef.in (md := mX5_copy) (L := [some (.ref 0), some (.int 3), some (.int 3), some (.int a3), some (.int a4), some (.int a5), none, none]) rfl (Nat.le_of_ble_eq_true rfl) rfl ?_
    refine E_iload_n rfl rfl ?_
    refine E_callS (v := some (.int 1)) (As := [.int 3]) (r0 := []) (cs2 := w0) rfl rfl rfl (Nat.le_of_ble_eq_true rfl) rfl c16_X5_isShelf (by decide) rfl ?_
    refine E_if (t := 14) (b := false) rfl rfl (by decide) ?_
    refine E_iload_n rfl rfl ?_
    refine E_callS (v := some (.int 1)) (As := [.int 3]) (r0 := []) (cs2 := w0) rfl rfl rfl (Nat.le_of_ble_eq_true rfl) rfl c16_X5_isShelf (by decide) rfl ?_
    refine E_if (t := 20) (b := true) rfl rfl (by decide) ?_
    refine E_aload_n rfl rfl ?_
    refine E_getfield (v := .ref 31) rfl rfl rfl (by decide) rfl ?_
    refine E_iload_n rfl rfl ?_
    refine E_aaload (b := 55) (j := 3) rfl rfl (by decide) (by decide) rfl ?_
    refine E_astore (L2 := [some (.ref 0), some (.int 3), some (.int 3), some (.int a3), some (.int a4), some (.int a5), some (.ref 55), none]) rfl rfl ?_
    refine E_aload_n rfl rfl ?_
    refine E_getfield (v := .ref 31) rfl rfl rfl (by decide) rfl ?_
    refine E_iload_n rfl rfl ?_
    refine E_aaload (b := 55) (j := 3) rfl rfl (by decide) (by decide) rfl ?_
    refine E_astore (L2 := [some (.ref 0), some (.int 3), some (.int 3), some (.int a3), some (.int a4), some (.int a5), some (.ref 55), some (.ref 55)]) rfl rfl ?_
    refine E_aload rfl rfl ?_
    refine E_callV (v := some (.int 0)) (As := [.ref 55]) (r0 := []) (cs2 := w0) rfl rfl rfl (Nat.le_of_ble_eq_true rfl) rfl rfl c45_X3_isOtherThanRow (by decide) rfl ?_
    refine E_if (t := 62) (b := false) rfl rfl (by decide) ?_
    refine E_aload rfl rfl ?_
    refine E_callV (v := some (.int 0)) (As := [.ref 55]) (r0 := []) (cs2 := w0) rfl rfl rfl (Nat.le_of_ble_eq_true rfl) rfl rfl c45_X3_isOtherThanRow (by decide) rfl ?_
    refine E_if (t := 62) (b := false) rfl rfl (by decide) ?_
    refine E_aload rfl rfl ?_
    refine E_aload rfl rfl ?_
    refine E_callV (v := some (.int 0)) (As := [.ref 55, .ref 55]) (r0 := []) (cs2 := w0) rfl rfl rfl (Nat.le_of_ble_eq_true rfl) rfl rfl c91_X3_isOfOtherSort (by decide) rfl ?_
    refine E_if (t := 68) (b := true) rfl rfl (by decide) ?_
    refine E_aload rfl rfl ?_
    refine E_callV (v := some (.int 1)) (As := [.ref 55]) (r0 := []) (cs2 := w0) rfl rfl rfl (Nat.le_of_ble_eq_true rfl) rfl rfl c46_X3_isEmpty (by decide) rfl ?_
    refine E_if (t := 84) (b := true) rfl rfl (by decide) ?_
    refine E_aload_n rfl rfl ?_
    refine E_iconst (x := 3) rfl (by decide) ?_
    refine E_callV (v := some (.int (-3))) (As := [.ref 0, .int 3]) (r0 := []) (cs2 := (w0.set 48 (.inl [0, 0, 0, 1, 0, 0, 0, 0]))) rfl rfl rfl (Nat.le_of_ble_eq_true rfl) rfl rfl c32_X5_refuse (by decide) (by simp only [List.length_set]) ?_
    exact E_iret rfl rfl, by
    refine Ef.in (md := mX6_copy) (L := [some (.ref 65), some (.int 3), some (.int 3), some (.int a3), some (.int a4), some (.int a5), none]) rfl (Nat.le_of_ble_eq_true rfl) rfl ?_
    refine E_aload_n rfl rfl ?_
    refine E_iload_n rfl rfl ?_
    refine E_callV (v := some (.int 1)) (As := [.ref 65, .int 3]) (r0 := []) (cs2 := (w0.set 48 (.inl [0, 0, 0, 1, 0, 0, 0, 0]))) rfl rfl rfl (Nat.le_of_ble_eq_true rfl) rfl rfl c47_X6_isShelf (by decide) rfl ?_
    refine E_if (t := 16) (b := false) rfl rfl (by decide) ?_
    refine E_aload_n rfl rfl ?_
    refine E_iload_n rfl rfl ?_
    refine E_callV (v := some (.int 1)) (As := [.ref 65, .int 3]) (r0 := []) (cs2 := (w0.set 48 (.inl [0, 0, 0, 1, 0, 0, 0, 0]))) rfl rfl rfl (Nat.le_of_ble_eq_true rfl) rfl rfl c47_X6_isShelf (by decide) rfl ?_
    refine E_if (t := 22) (b := true) rfl rfl (by decide) ?_
    refine E_aload_n rfl rfl ?_
    refine E_getfield (v := .ref 76) rfl rfl rfl (by decide) rfl ?_
    refine E_iload_n rfl rfl ?_
    refine E_iaload (x := 0) (j := 3) rfl rfl (by decide) (by decide) rfl ?_
    refine E_iconst (x := 2) rfl (by decide) ?_
    refine E_ic (t := 77) (b := false) rfl rfl (by decide) ?_
    refine E_aload_n rfl rfl ?_
    refine E_getfield (v := .ref 76) rfl rfl rfl (by decide) rfl ?_
    refine E_iload_n rfl rfl ?_
    refine E_iaload (x := 0) (j := 3) rfl rfl (by decide) (by decide) rfl ?_
    refine E_iconst (x := 2) rfl (by decide) ?_
    refine E_ic (t := 77) (b := false) rfl rfl (by decide) ?_
    refine E_aload_n rfl rfl ?_
    refine E_getfield (v := .ref 76) rfl rfl rfl (by decide) rfl ?_
    refine E_iload_n rfl rfl ?_
    refine E_iaload (x := 0) (j := 3) rfl rfl (by decide) (by decide) rfl ?_
    refine E_iconst (x := 1) rfl (by decide) ?_
    refine E_ic (t := 84) (b := true) rfl rfl (by decide) ?_
    refine E_aload_n rfl rfl ?_
    refine E_getfield (v := .ref 76) rfl rfl rfl (by decide) rfl ?_
    refine E_iload_n rfl rfl ?_
    refine E_iaload (x := 0) (j := 3) rfl rfl (by decide) (by decide) rfl ?_
    refine E_if (t := 102) (b := true) rfl rfl (by decide) ?_
    refine E_aload_n rfl rfl ?_
    refine E_bipush (x := (-3)) rfl (by decide) ?_
    refine E_callV (v := some (.int (-3))) (As := [.ref 65, .int (-3)]) (r0 := []) (cs2 := ((w0.set 48 (.inl [0, 0, 0, 1, 0, 0, 0, 0])).set 66 (.inl [0, 0, 0, 1, 0, 0, 0, 0]))) rfl rfl rfl (Nat.le_of_ble_eq_true rfl) rfl rfl c35_X6_no (by decide) (by simp only [List.length_set]) ?_
    exact E_iret rfl rfl, (by simp only [List.length_set]; rfl), (by simp only [List.length_set]; rfl), ((ab_szs rfl).trans ((ab_szs rfl).trans rfl)), fun _ => rfl⟩
theorem f_copy_31 (a3 a4 a5 : Int32) : p1_P 3 78 2 137 [.ref 0, .int 3, .int 4, .int a3, .int a4, .int a5] [.ref 65, .int 3, .int 4, .int a3, .int a4, .int a5] :=
  ⟨(-3), (w0.set 48 (.inl [0, 0, 0, 1, 0, 0, 0, 0])), ((w0.set 48 (.inl [0, 0, 0, 1, 0, 0, 0, 0])).set 66 (.inl [0, 0, 0, 1, 0, 0, 0, 0])), by
    refine Ef.in (md := mX5_copy) (L := [some (.ref 0), some (.int 3), some (.int 4), some (.int a3), some (.int a4), some (.int a5), none, none]) rfl (Nat.le_of_ble_eq_true rfl) rfl ?_
    refine E_iload_n rfl rfl ?_
    refine E_callS (v := some (.int 1)) (As := [.int 3]) (r0 := []) (cs2 := w0) rfl rfl rfl (Nat.le_of_ble_eq_true rfl) rfl c16_X5_isShelf (by decide) rfl ?_
    refine E_if (t := 14) (b := false) rfl rfl (by decide) ?_
    refine E_iload_n rfl rfl ?_
    refine E_callS (v := some (.int 1)) (As := [.int 4]) (r0 := []) (cs2 := w0) rfl rfl rfl (Nat.le_of_ble_eq_true rfl) rfl c18_X5_isShelf (by decide) rfl ?_
    refine E_if (t := 20) (b := true) rfl rfl (by decide) ?_
    refine E_aload_n rfl rfl ?_
    refine E_getfield (v := .ref 31) rfl rfl rfl (by decide) rfl ?_
    refine E_iload_n rfl rfl ?_
    refine E_aaload (b := 55) (j := 3) rfl rfl (by decide) (by decide) rfl ?_
    refine E_astore (L2 := [some (.ref 0), some (.int 3), some (.int 4), some (.int a3), some (.int a4), some (.int a5), some (.ref 55), none]) rfl rfl ?_
    refine E_aload_n rfl rfl ?_
    refine E_getfield (v := .ref 31) rfl rfl rfl (by decide) rfl ?_
    refine E_iload_n rfl rfl ?_
    refine E_aaload (b := 57) (j := 4) rfl rfl (by decide) (by decide) rfl ?_
    refine E_astore (L2 := [some (.ref 0), some (.int 3), some (.int 4), some (.int a3), some (.int a4), some (.int a5), some (.ref 55), some (.ref 57)]) rfl rfl ?_
    refine E_aload rfl rfl ?_
    refine E_callV (v := some (.int 0)) (As := [.ref 55]) (r0 := []) (cs2 := w0) rfl rfl rfl (Nat.le_of_ble_eq_true rfl) rfl rfl c45_X3_isOtherThanRow (by decide) rfl ?_
    refine E_if (t := 62) (b := false) rfl rfl (by decide) ?_
    refine E_aload rfl rfl ?_
    refine E_callV (v := some (.int 0)) (As := [.ref 57]) (r0 := []) (cs2 := w0) rfl rfl rfl (Nat.le_of_ble_eq_true rfl) rfl rfl c49_X3_isOtherThanRow (by decide) rfl ?_
    refine E_if (t := 62) (b := false) rfl rfl (by decide) ?_
    refine E_aload rfl rfl ?_
    refine E_aload rfl rfl ?_
    refine E_callV (v := some (.int 0)) (As := [.ref 55, .ref 57]) (r0 := []) (cs2 := w0) rfl rfl rfl (Nat.le_of_ble_eq_true rfl) rfl rfl c92_X3_isOfOtherSort (by decide) rfl ?_
    refine E_if (t := 68) (b := true) rfl rfl (by decide) ?_
    refine E_aload rfl rfl ?_
    refine E_callV (v := some (.int 1)) (As := [.ref 55]) (r0 := []) (cs2 := w0) rfl rfl rfl (Nat.le_of_ble_eq_true rfl) rfl rfl c46_X3_isEmpty (by decide) rfl ?_
    refine E_if (t := 84) (b := true) rfl rfl (by decide) ?_
    refine E_aload_n rfl rfl ?_
    refine E_iconst (x := 3) rfl (by decide) ?_
    refine E_callV (v := some (.int (-3))) (As := [.ref 0, .int 3]) (r0 := []) (cs2 := (w0.set 48 (.inl [0, 0, 0, 1, 0, 0, 0, 0]))) rfl rfl rfl (Nat.le_of_ble_eq_true rfl) rfl rfl c32_X5_refuse (by decide) (by simp only [List.length_set]) ?_
    exact E_iret rfl rfl, by
    refine Ef.in (md := mX6_copy) (L := [some (.ref 65), some (.int 3), some (.int 4), some (.int a3), some (.int a4), some (.int a5), none]) rfl (Nat.le_of_ble_eq_true rfl) rfl ?_
    refine E_aload_n rfl rfl ?_
    refine E_iload_n rfl rfl ?_
    refine E_callV (v := some (.int 1)) (As := [.ref 65, .int 3]) (r0 := []) (cs2 := (w0.set 48 (.inl [0, 0, 0, 1, 0, 0, 0, 0]))) rfl rfl rfl (Nat.le_of_ble_eq_true rfl) rfl rfl c47_X6_isShelf (by decide) rfl ?_
    refine E_if (t := 16) (b := false) rfl rfl (by decide) ?_
    refine E_aload_n rfl rfl ?_
    refine E_iload_n rfl rfl ?_
    refine E_callV (v := some (.int 1)) (As := [.ref 65, .int 4]) (r0 := []) (cs2 := (w0.set 48 (.inl [0, 0, 0, 1, 0, 0, 0, 0]))) rfl rfl rfl (Nat.le_of_ble_eq_true rfl) rfl rfl c51_X6_isShelf (by decide) rfl ?_
    refine E_if (t := 22) (b := true) rfl rfl (by decide) ?_
    refine E_aload_n rfl rfl ?_
    refine E_getfield (v := .ref 76) rfl rfl rfl (by decide) rfl ?_
    refine E_iload_n rfl rfl ?_
    refine E_iaload (x := 0) (j := 3) rfl rfl (by decide) (by decide) rfl ?_
    refine E_iconst (x := 2) rfl (by decide) ?_
    refine E_ic (t := 77) (b := false) rfl rfl (by decide) ?_
    refine E_aload_n rfl rfl ?_
    refine E_getfield (v := .ref 76) rfl rfl rfl (by decide) rfl ?_
    refine E_iload_n rfl rfl ?_
    refine E_iaload (x := 0) (j := 4) rfl rfl (by decide) (by decide) rfl ?_
    refine E_iconst (x := 2) rfl (by decide) ?_
    refine E_ic (t := 77) (b := false) rfl rfl (by decide) ?_
    refine E_aload_n rfl rfl ?_
    refine E_getfield (v := .ref 76) rfl rfl rfl (by decide) rfl ?_
    refine E_iload_n rfl rfl ?_
    refine E_iaload (x := 0) (j := 3) rfl rfl (by decide) (by decide) rfl ?_
    refine E_iconst (x := 1) rfl (by decide) ?_
    refine E_ic (t := 84) (b := true) rfl rfl (by decide) ?_
    refine E_aload_n rfl rfl ?_
    refine E_getfield (v := .ref 76) rfl rfl rfl (by decide) rfl ?_
    refine E_iload_n rfl rfl ?_
    refine E_iaload (x := 0) (j := 3) rfl rfl (by decide) (by decide) rfl ?_
    refine E_if (t := 102) (b := true) rfl rfl (by decide) ?_
    refine E_aload_n rfl rfl ?_
    refine E_bipush (x := (-3)) rfl (by decide) ?_
    refine E_callV (v := some (.int (-3))) (As := [.ref 65, .int (-3)]) (r0 := []) (cs2 := ((w0.set 48 (.inl [0, 0, 0, 1, 0, 0, 0, 0])).set 66 (.inl [0, 0, 0, 1, 0, 0, 0, 0]))) rfl rfl rfl (Nat.le_of_ble_eq_true rfl) rfl rfl c35_X6_no (by decide) (by simp only [List.length_set]) ?_
    exact E_iret rfl rfl, (by simp only [List.length_set]; rfl), (by simp only [List.length_set]; rfl), ((ab_szs rfl).trans ((ab_szs rfl).trans rfl)), fun _ => rfl⟩
theorem f_copy_32 (a3 a4 a5 : Int32) : p1_P 3 78 2 137 [.ref 0, .int 3, .int 5, .int a3, .int a4, .int a5] [.ref 65, .int 3, .int 5, .int a3, .int a4, .int a5] :=
  ⟨(-3), (w0.set 48 (.inl [0, 0, 0, 1, 0, 0, 0, 0])), ((w0.set 48 (.inl [0, 0, 0, 1, 0, 0, 0, 0])).set 66 (.inl [0, 0, 0, 1, 0, 0, 0, 0])), by
    refine Ef.in (md := mX5_copy) (L := [some (.ref 0), some (.int 3), some (.int 5), some (.int a3), some (.int a4), some (.int a5), none, none]) rfl (Nat.le_of_ble_eq_true rfl) rfl ?_
    refine E_iload_n rfl rfl ?_
    refine E_callS (v := some (.int 1)) (As := [.int 3]) (r0 := []) (cs2 := w0) rfl rfl rfl (Nat.le_of_ble_eq_true rfl) rfl c16_X5_isShelf (by decide) rfl ?_
    refine E_if (t := 14) (b := false) rfl rfl (by decide) ?_
    refine E_iload_n rfl rfl ?_
    refine E_callS (v := some (.int 1)) (As := [.int 5]) (r0 := []) (cs2 := w0) rfl rfl rfl (Nat.le_of_ble_eq_true rfl) rfl c20_X5_isShelf (by decide) rfl ?_
    refine E_if (t := 20) (b := true) rfl rfl (by decide) ?_
    refine E_aload_n rfl rfl ?_
    refine E_getfield (v := .ref 31) rfl rfl rfl (by decide) rfl ?_
    refine E_iload_n rfl rfl ?_
    refine E_aaload (b := 55) (j := 3) rfl rfl (by decide) (by decide) rfl ?_
    refine E_astore (L2 := [some (.ref 0), some (.int 3), some (.int 5), some (.int a3), some (.int a4), some (.int a5), some (.ref 55), none]) rfl rfl ?_
    refine E_aload_n rfl rfl ?_
    refine E_getfield (v := .ref 31) rfl rfl rfl (by decide) rfl ?_
    refine E_iload_n rfl rfl ?_
    refine E_aaload (b := 59) (j := 5) rfl rfl (by decide) (by decide) rfl ?_
    refine E_astore (L2 := [some (.ref 0), some (.int 3), some (.int 5), some (.int a3), some (.int a4), some (.int a5), some (.ref 55), some (.ref 59)]) rfl rfl ?_
    refine E_aload rfl rfl ?_
    refine E_callV (v := some (.int 0)) (As := [.ref 55]) (r0 := []) (cs2 := w0) rfl rfl rfl (Nat.le_of_ble_eq_true rfl) rfl rfl c45_X3_isOtherThanRow (by decide) rfl ?_
    refine E_if (t := 62) (b := false) rfl rfl (by decide) ?_
    refine E_aload rfl rfl ?_
    refine E_callV (v := some (.int 0)) (As := [.ref 59]) (r0 := []) (cs2 := w0) rfl rfl rfl (Nat.le_of_ble_eq_true rfl) rfl rfl c53_X3_isOtherThanRow (by decide) rfl ?_
    refine E_if (t := 62) (b := false) rfl rfl (by decide) ?_
    refine E_aload rfl rfl ?_
    refine E_aload rfl rfl ?_
    refine E_callV (v := some (.int 0)) (As := [.ref 55, .ref 59]) (r0 := []) (cs2 := w0) rfl rfl rfl (Nat.le_of_ble_eq_true rfl) rfl rfl c93_X3_isOfOtherSort (by decide) rfl ?_
    refine E_if (t := 68) (b := true) rfl rfl (by decide) ?_
    refine E_aload rfl rfl ?_
    refine E_callV (v := some (.int 1)) (As := [.ref 55]) (r0 := []) (cs2 := w0) rfl rfl rfl (Nat.le_of_ble_eq_true rfl) rfl rfl c46_X3_isEmpty (by decide) rfl ?_
    refine E_if (t := 84) (b := true) rfl rfl (by decide) ?_
    refine E_aload_n rfl rfl ?_
    refine E_iconst (x := 3) rfl (by decide) ?_
    refine E_callV (v := some (.int (-3))) (As := [.ref 0, .int 3]) (r0 := []) (cs2 := (w0.set 48 (.inl [0, 0, 0, 1, 0, 0, 0, 0]))) rfl rfl rfl (Nat.le_of_ble_eq_true rfl) rfl rfl c32_X5_refuse (by decide) (by simp only [List.length_set]) ?_
    exact E_iret rfl rfl, by
    refine Ef.in (md := mX6_copy) (L := [some (.ref 65), some (.int 3), some (.int 5), some (.int a3), some (.int a4), some (.int a5), none]) rfl (Nat.le_of_ble_eq_true rfl) rfl ?_
    refine E_aload_n rfl rfl ?_
    refine E_iload_n rfl rfl ?_
    refine E_callV (v := some (.int 1)) (As := [.ref 65, .int 3]) (r0 := []) (cs2 := (w0.set 48 (.inl [0, 0, 0, 1, 0, 0, 0, 0]))) rfl rfl rfl (Nat.le_of_ble_eq_true rfl) rfl rfl c47_X6_isShelf (by decide) rfl ?_
    refine E_if (t := 16) (b := false) rfl rfl (by decide) ?_
    refine E_aload_n rfl rfl ?_
    refine E_iload_n rfl rfl ?_
    refine E_callV (v := some (.int 1)) (As := [.ref 65, .int 5]) (r0 := []) (cs2 := (w0.set 48 (.inl [0, 0, 0, 1, 0, 0, 0, 0]))) rfl rfl rfl (Nat.le_of_ble_eq_true rfl) rfl rfl c55_X6_isShelf (by decide) rfl ?_
    refine E_if (t := 22) (b := true) rfl rfl (by decide) ?_
    refine E_aload_n rfl rfl ?_
    refine E_getfield (v := .ref 76) rfl rfl rfl (by decide) rfl ?_
    refine E_iload_n rfl rfl ?_
    refine E_iaload (x := 0) (j := 3) rfl rfl (by decide) (by decide) rfl ?_
    refine E_iconst (x := 2) rfl (by decide) ?_
    refine E_ic (t := 77) (b := false) rfl rfl (by decide) ?_
    refine E_aload_n rfl rfl ?_
    refine E_getfield (v := .ref 76) rfl rfl rfl (by decide) rfl ?_
    refine E_iload_n rfl rfl ?_
    refine E_iaload (x := 0) (j := 5) rfl rfl (by decide) (by decide) rfl ?_
    refine E_iconst (x := 2) rfl (by decide) ?_
    refine E_ic (t := 77) (b := false) rfl rfl (by decide) ?_
    refine E_aload_n rfl rfl ?_
    refine E_getfield (v := .ref 76) rfl rfl rfl (by decide) rfl ?_
    refine E_iload_n rfl rfl ?_
    refine E_iaload (x := 0) (j := 3) rfl rfl (by decide) (by decide) rfl ?_
    refine E_iconst (x := 1) rfl (by decide) ?_
    refine E_ic (t := 84) (b := true) rfl rfl (by decide) ?_
    refine E_aload_n rfl rfl ?_
    refine E_getfield (v := .ref 76) rfl rfl rfl (by decide) rfl ?_
    refine E_iload_n rfl rfl ?_
    refine E_iaload (x := 0) (j := 3) rfl rfl (by decide) (by decide) rfl ?_
    refine E_if (t := 102) (b := true) rfl rfl (by decide) ?_
    refine E_aload_n rfl rfl ?_
    refine E_bipush (x := (-3)) rfl (by decide) ?_
    refine E_callV (v := some (.int (-3))) (As := [.ref 65, .int (-3)]) (r0 := []) (cs2 := ((w0.set 48 (.inl [0, 0, 0, 1, 0, 0, 0, 0])).set 66 (.inl [0, 0, 0, 1, 0, 0, 0, 0]))) rfl rfl rfl (Nat.le_of_ble_eq_true rfl) rfl rfl c35_X6_no (by decide) (by simp only [List.length_set]) ?_
    exact E_iret rfl rfl, (by simp only [List.length_set]; rfl), (by simp only [List.length_set]; rfl), ((ab_szs rfl).trans ((ab_szs rfl).trans rfl)), fun _ => rfl⟩
theorem f_copy_33 (a3 a4 a5 : Int32) : p1_P 3 78 2 137 [.ref 0, .int 3, .int 6, .int a3, .int a4, .int a5] [.ref 65, .int 3, .int 6, .int a3, .int a4, .int a5] :=
  ⟨(-3), (w0.set 48 (.inl [0, 0, 0, 1, 0, 0, 0, 0])), ((w0.set 48 (.inl [0, 0, 0, 1, 0, 0, 0, 0])).set 66 (.inl [0, 0, 0, 1, 0, 0, 0, 0])), by
    refine Ef.in (md := mX5_copy) (L := [some (.ref 0), some (.int 3), some (.int 6), some (.int a3), some (.int a4), some (.int a5), none, none]) rfl (Nat.le_of_ble_eq_true rfl) rfl ?_
    refine E_iload_n rfl rfl ?_
    refine E_callS (v := some (.int 1)) (As := [.int 3]) (r0 := []) (cs2 := w0) rfl rfl rfl (Nat.le_of_ble_eq_true rfl) rfl c16_X5_isShelf (by decide) rfl ?_
    refine E_if (t := 14) (b := false) rfl rfl (by decide) ?_
    refine E_iload_n rfl rfl ?_
    refine E_callS (v := some (.int 1)) (As := [.int 6]) (r0 := []) (cs2 := w0) rfl rfl rfl (Nat.le_of_ble_eq_true rfl) rfl c22_X5_isShelf (by decide) rfl ?_
    refine E_if (t := 20) (b := true) rfl rfl (by decide) ?_
    refine E_aload_n rfl rfl ?_
    refine E_getfield (v := .ref 31) rfl rfl rfl (by decide) rfl ?_
    refine E_iload_n rfl rfl ?_
    refine E_aaload (b := 55) (j := 3) rfl rfl (by decide) (by decide) rfl ?_
    refine E_astore (L2 := [some (.ref 0), some (.int 3), some (.int 6), some (.int a3), some (.int a4), some (.int a5), some (.ref 55), none]) rfl rfl ?_
    refine E_aload_n rfl rfl ?_
    refine E_getfield (v := .ref 31) rfl rfl rfl (by decide) rfl ?_
    refine E_iload_n rfl rfl ?_
    refine E_aaload (b := 61) (j := 6) rfl rfl (by decide) (by decide) rfl ?_
    refine E_astore (L2 := [some (.ref 0), some (.int 3), some (.int 6), some (.int a3), some (.int a4), some (.int a5), some (.ref 55), some (.ref 61)]) rfl rfl ?_
    refine E_aload rfl rfl ?_
    refine E_callV (v := some (.int 0)) (As := [.ref 55]) (r0 := []) (cs2 := w0) rfl rfl rfl (Nat.le_of_ble_eq_true rfl) rfl rfl c45_X3_isOtherThanRow (by decide) rfl ?_
    refine E_if (t := 62) (b := false) rfl rfl (by decide) ?_
    refine E_aload rfl rfl ?_
    refine E_callV (v := some (.int 0)) (As := [.ref 61]) (r0 := []) (cs2 := w0) rfl rfl rfl (Nat.le_of_ble_eq_true rfl) rfl rfl c57_X3_isOtherThanRow (by decide) rfl ?_
    refine E_if (t := 62) (b := false) rfl rfl (by decide) ?_
    refine E_aload rfl rfl ?_
    refine E_aload rfl rfl ?_
    refine E_callV (v := some (.int 0)) (As := [.ref 55, .ref 61]) (r0 := []) (cs2 := w0) rfl rfl rfl (Nat.le_of_ble_eq_true rfl) rfl rfl c94_X3_isOfOtherSort (by decide) rfl ?_
    refine E_if (t := 68) (b := true) rfl rfl (by decide) ?_
    refine E_aload rfl rfl ?_
    refine E_callV (v := some (.int 1)) (As := [.ref 55]) (r0 := []) (cs2 := w0) rfl rfl rfl (Nat.le_of_ble_eq_true rfl) rfl rfl c46_X3_isEmpty (by decide) rfl ?_
    refine E_if (t := 84) (b := true) rfl rfl (by decide) ?_
    refine E_aload_n rfl rfl ?_
    refine E_iconst (x := 3) rfl (by decide) ?_
    refine E_callV (v := some (.int (-3))) (As := [.ref 0, .int 3]) (r0 := []) (cs2 := (w0.set 48 (.inl [0, 0, 0, 1, 0, 0, 0, 0]))) rfl rfl rfl (Nat.le_of_ble_eq_true rfl) rfl rfl c32_X5_refuse (by decide) (by simp only [List.length_set]) ?_
    exact E_iret rfl rfl, by
    refine Ef.in (md := mX6_copy) (L := [some (.ref 65), some (.int 3), some (.int 6), some (.int a3), some (.int a4), some (.int a5), none]) rfl (Nat.le_of_ble_eq_true rfl) rfl ?_
    refine E_aload_n rfl rfl ?_
    refine E_iload_n rfl rfl ?_
    refine E_callV (v := some (.int 1)) (As := [.ref 65, .int 3]) (r0 := []) (cs2 := (w0.set 48 (.inl [0, 0, 0, 1, 0, 0, 0, 0]))) rfl rfl rfl (Nat.le_of_ble_eq_true rfl) rfl rfl c47_X6_isShelf (by decide) rfl ?_
    refine E_if (t := 16) (b := false) rfl rfl (by decide) ?_
    refine E_aload_n rfl rfl ?_
    refine E_iload_n rfl rfl ?_
    refine E_callV (v := some (.int 1)) (As := [.ref 65, .int 6]) (r0 := []) (cs2 := (w0.set 48 (.inl [0, 0, 0, 1, 0, 0, 0, 0]))) rfl rfl rfl (Nat.le_of_ble_eq_true rfl) rfl rfl c59_X6_isShelf (by decide) rfl ?_
    refine E_if (t := 22) (b := true) rfl rfl (by decide) ?_
    refine E_aload_n rfl rfl ?_
    refine E_getfield (v := .ref 76) rfl rfl rfl (by decide) rfl ?_
    refine E_iload_n rfl rfl ?_
    refine E_iaload (x := 0) (j := 3) rfl rfl (by decide) (by decide) rfl ?_
    refine E_iconst (x := 2) rfl (by decide) ?_
    refine E_ic (t := 77) (b := false) rfl rfl (by decide) ?_
    refine E_aload_n rfl rfl ?_
    refine E_getfield (v := .ref 76) rfl rfl rfl (by decide) rfl ?_
    refine E_iload_n rfl rfl ?_
    refine E_iaload (x := 0) (j := 6) rfl rfl (by decide) (by decide) rfl ?_
    refine E_iconst (x := 2) rfl (by decide) ?_
    refine E_ic (t := 77) (b := false) rfl rfl (by decide) ?_
    refine E_aload_n rfl rfl ?_
    refine E_getfield (v := .ref 76) rfl rfl rfl (by decide) rfl ?_
    refine E_iload_n rfl rfl ?_
    refine E_iaload (x := 0) (j := 3) rfl rfl (by decide) (by decide) rfl ?_
    refine E_iconst (x := 1) rfl (by decide) ?_
    refine E_ic (t := 84) (b := true) rfl rfl (by decide) ?_
    refine E_aload_n rfl rfl ?_
    refine E_getfield (v := .ref 76) rfl rfl rfl (by decide) rfl ?_
    refine E_iload_n rfl rfl ?_
    refine E_iaload (x := 0) (j := 3) rfl rfl (by decide) (by decide) rfl ?_
    refine E_if (t := 102) (b := true) rfl rfl (by decide) ?_
    refine E_aload_n rfl rfl ?_
    refine E_bipush (x := (-3)) rfl (by decide) ?_
    refine E_callV (v := some (.int (-3))) (As := [.ref 65, .int (-3)]) (r0 := []) (cs2 := ((w0.set 48 (.inl [0, 0, 0, 1, 0, 0, 0, 0])).set 66 (.inl [0, 0, 0, 1, 0, 0, 0, 0]))) rfl rfl rfl (Nat.le_of_ble_eq_true rfl) rfl rfl c35_X6_no (by decide) (by simp only [List.length_set]) ?_
    exact E_iret rfl rfl, (by simp only [List.length_set]; rfl), (by simp only [List.length_set]; rfl), ((ab_szs rfl).trans ((ab_szs rfl).trans rfl)), fun _ => rfl⟩
theorem f_copy_34 (a3 a4 a5 : Int32) : p1_P 3 78 2 137 [.ref 0, .int 3, .int 7, .int a3, .int a4, .int a5] [.ref 65, .int 3, .int 7, .int a3, .int a4, .int a5] :=
  ⟨(-3), (w0.set 48 (.inl [0, 0, 0, 1, 0, 0, 0, 0])), ((w0.set 48 (.inl [0, 0, 0, 1, 0, 0, 0, 0])).set 66 (.inl [0, 0, 0, 1, 0, 0, 0, 0])), by
    refine Ef.in (md := mX5_copy) (L := [some (.ref 0), some (.int 3), some (.int 7), some (.int a3), some (.int a4), some (.int a5), none, none]) rfl (Nat.le_of_ble_eq_true rfl) rfl ?_
    refine E_iload_n rfl rfl ?_
    refine E_callS (v := some (.int 1)) (As := [.int 3]) (r0 := []) (cs2 := w0) rfl rfl rfl (Nat.le_of_ble_eq_true rfl) rfl c16_X5_isShelf (by decide) rfl ?_
    refine E_if (t := 14) (b := false) rfl rfl (by decide) ?_
    refine E_iload_n rfl rfl ?_
    refine E_callS (v := some (.int 1)) (As := [.int 7]) (r0 := []) (cs2 := w0) rfl rfl rfl (Nat.le_of_ble_eq_true rfl) rfl c24_X5_isShelf (by decide) rfl ?_
    refine E_if (t := 20) (b := true) rfl rfl (by decide) ?_
    refine E_aload_n rfl rfl ?_
    refine E_getfield (v := .ref 31) rfl rfl rfl (by decide) rfl ?_
    refine E_iload_n rfl rfl ?_
    refine E_aaload (b := 55) (j := 3) rfl rfl (by decide) (by decide) rfl ?_
    refine E_astore (L2 := [some (.ref 0), some (.int 3), some (.int 7), some (.int a3), some (.int a4), some (.int a5), some (.ref 55), none]) rfl rfl ?_
    refine E_aload_n rfl rfl ?_
    refine E_getfield (v := .ref 31) rfl rfl rfl (by decide) rfl ?_
    refine E_iload_n rfl rfl ?_
    refine E_aaload (b := 63) (j := 7) rfl rfl (by decide) (by decide) rfl ?_
    refine E_astore (L2 := [some (.ref 0), some (.int 3), some (.int 7), some (.int a3), some (.int a4), some (.int a5), some (.ref 55), some (.ref 63)]) rfl rfl ?_
    refine E_aload rfl rfl ?_
    refine E_callV (v := some (.int 0)) (As := [.ref 55]) (r0 := []) (cs2 := w0) rfl rfl rfl (Nat.le_of_ble_eq_true rfl) rfl rfl c45_X3_isOtherThanRow (by decide) rfl ?_
    refine E_if (t := 62) (b := false) rfl rfl (by decide) ?_
    refine E_aload rfl rfl ?_
    refine E_callV (v := some (.int 0)) (As := [.ref 63]) (r0 := []) (cs2 := w0) rfl rfl rfl (Nat.le_of_ble_eq_true rfl) rfl rfl c61_X3_isOtherThanRow (by decide) rfl ?_
    refine E_if (t := 62) (b := false) rfl rfl (by decide) ?_
    refine E_aload rfl rfl ?_
    refine E_aload rfl rfl ?_
    refine E_callV (v := some (.int 0)) (As := [.ref 55, .ref 63]) (r0 := []) (cs2 := w0) rfl rfl rfl (Nat.le_of_ble_eq_true rfl) rfl rfl c95_X3_isOfOtherSort (by decide) rfl ?_
    refine E_if (t := 68) (b := true) rfl rfl (by decide) ?_
    refine E_aload rfl rfl ?_
    refine E_callV (v := some (.int 1)) (As := [.ref 55]) (r0 := []) (cs2 := w0) rfl rfl rfl (Nat.le_of_ble_eq_true rfl) rfl rfl c46_X3_isEmpty (by decide) rfl ?_
    refine E_if (t := 84) (b := true) rfl rfl (by decide) ?_
    refine E_aload_n rfl rfl ?_
    refine E_iconst (x := 3) rfl (by decide) ?_
    refine E_callV (v := some (.int (-3))) (As := [.ref 0, .int 3]) (r0 := []) (cs2 := (w0.set 48 (.inl [0, 0, 0, 1, 0, 0, 0, 0]))) rfl rfl rfl (Nat.le_of_ble_eq_true rfl) rfl rfl c32_X5_refuse (by decide) (by simp only [List.length_set]) ?_
    exact E_iret rfl rfl, by
    refine Ef.in (md := mX6_copy) (L := [some (.ref 65), some (.int 3), some (.int 7), some (.int a3), some (.int a4), some (.int a5), none]) rfl (Nat.le_of_ble_eq_true rfl) rfl ?_
    refine E_aload_n rfl rfl ?_
    refine E_iload_n rfl rfl ?_
    refine E_callV (v := some (.int 1)) (As := [.ref 65, .int 3]) (r0 := []) (cs2 := (w0.set 48 (.inl [0, 0, 0, 1, 0, 0, 0, 0]))) rfl rfl rfl (Nat.le_of_ble_eq_true rfl) rfl rfl c47_X6_isShelf (by decide) rfl ?_
    refine E_if (t := 16) (b := false) rfl rfl (by decide) ?_
    refine E_aload_n rfl rfl ?_
    refine E_iload_n rfl rfl ?_
    refine E_callV (v := some (.int 1)) (As := [.ref 65, .int 7]) (r0 := []) (cs2 := (w0.set 48 (.inl [0, 0, 0, 1, 0, 0, 0, 0]))) rfl rfl rfl (Nat.le_of_ble_eq_true rfl) rfl rfl c63_X6_isShelf (by decide) rfl ?_
    refine E_if (t := 22) (b := true) rfl rfl (by decide) ?_
    refine E_aload_n rfl rfl ?_
    refine E_getfield (v := .ref 76) rfl rfl rfl (by decide) rfl ?_
    refine E_iload_n rfl rfl ?_
    refine E_iaload (x := 0) (j := 3) rfl rfl (by decide) (by decide) rfl ?_
    refine E_iconst (x := 2) rfl (by decide) ?_
    refine E_ic (t := 77) (b := false) rfl rfl (by decide) ?_
    refine E_aload_n rfl rfl ?_
    refine E_getfield (v := .ref 76) rfl rfl rfl (by decide) rfl ?_
    refine E_iload_n rfl rfl ?_
    refine E_iaload (x := 0) (j := 7) rfl rfl (by decide) (by decide) rfl ?_
    refine E_iconst (x := 2) rfl (by decide) ?_
    refine E_ic (t := 77) (b := false) rfl rfl (by decide) ?_
    refine E_aload_n rfl rfl ?_
    refine E_getfield (v := .ref 76) rfl rfl rfl (by decide) rfl ?_
    refine E_iload_n rfl rfl ?_
    refine E_iaload (x := 0) (j := 3) rfl rfl (by decide) (by decide) rfl ?_
    refine E_iconst (x := 1) rfl (by decide) ?_
    refine E_ic (t := 84) (b := true) rfl rfl (by decide) ?_
    refine E_aload_n rfl rfl ?_
    refine E_getfield (v := .ref 76) rfl rfl rfl (by decide) rfl ?_
    refine E_iload_n rfl rfl ?_
    refine E_iaload (x := 0) (j := 3) rfl rfl (by decide) (by decide) rfl ?_
    refine E_if (t := 102) (b := true) rfl rfl (by decide) ?_
    refine E_aload_n rfl rfl ?_
    refine E_bipush (x := (-3)) rfl (by decide) ?_
    refine E_callV (v := some (.int (-3))) (As := [.ref 65, .int (-3)]) (r0 := []) (cs2 := ((w0.set 48 (.inl [0, 0, 0, 1, 0, 0, 0, 0])).set 66 (.inl [0, 0, 0, 1, 0, 0, 0, 0]))) rfl rfl rfl (Nat.le_of_ble_eq_true rfl) rfl rfl c35_X6_no (by decide) (by simp only [List.length_set]) ?_
    exact E_iret rfl rfl, (by simp only [List.length_set]; rfl), (by simp only [List.length_set]; rfl), ((ab_szs rfl).trans ((ab_szs rfl).trans rfl)), fun _ => rfl⟩
theorem f_copy_35 (a3 a4 a5 : Int32) : p1_P 3 78 2 137 [.ref 0, .int 4, .int 0, .int a3, .int a4, .int a5] [.ref 65, .int 4, .int 0, .int a3, .int a4, .int a5] :=
  ⟨(-3), (w0.set 48 (.inl [0, 0, 0, 1, 0, 0, 0, 0])), ((w0.set 48 (.inl [0, 0, 0, 1, 0, 0, 0, 0])).set 66 (.inl [0, 0, 0, 1, 0, 0, 0, 0])), by
    refine Ef.in (md := mX5_copy) (L := [some (.ref 0), some (.int 4), some (.int 0), some (.int a3), some (.int a4), some (.int a5), none, none]) rfl (Nat.le_of_ble_eq_true rfl) rfl ?_
    refine E_iload_n rfl rfl ?_
    refine E_callS (v := some (.int 1)) (As := [.int 4]) (r0 := []) (cs2 := w0) rfl rfl rfl (Nat.le_of_ble_eq_true rfl) rfl c18_X5_isShelf (by decide) rfl ?_
    refine E_if (t := 14) (b := false) rfl rfl (by decide) ?_
    refine E_iload_n rfl rfl ?_
    refine E_callS (v := some (.int 1)) (As := [.int 0]) (r0 := []) (cs2 := w0) rfl rfl rfl (Nat.le_of_ble_eq_true rfl) rfl c10_X5_isShelf (by decide) rfl ?_
    refine E_if (t := 20) (b := true) rfl rfl (by decide) ?_
    refine E_aload_n rfl rfl ?_
    refine E_getfield (v := .ref 31) rfl rfl rfl (by decide) rfl ?_
    refine E_iload_n rfl rfl ?_
    refine E_aaload (b := 57) (j := 4) rfl rfl (by decide) (by decide) rfl ?_
    refine E_astore (L2 := [some (.ref 0), some (.int 4), some (.int 0), some (.int a3), some (.int a4), some (.int a5), some (.ref 57), none]) rfl rfl ?_
    refine E_aload_n rfl rfl ?_
    refine E_getfield (v := .ref 31) rfl rfl rfl (by decide) rfl ?_
    refine E_iload_n rfl rfl ?_
    refine E_aaload (b := 49) (j := 0) rfl rfl (by decide) (by decide) rfl ?_
    refine E_astore (L2 := [some (.ref 0), some (.int 4), some (.int 0), some (.int a3), some (.int a4), some (.int a5), some (.ref 57), some (.ref 49)]) rfl rfl ?_
    refine E_aload rfl rfl ?_
    refine E_callV (v := some (.int 0)) (As := [.ref 57]) (r0 := []) (cs2 := w0) rfl rfl rfl (Nat.le_of_ble_eq_true rfl) rfl rfl c49_X3_isOtherThanRow (by decide) rfl ?_
    refine E_if (t := 62) (b := false) rfl rfl (by decide) ?_
    refine E_aload rfl rfl ?_
    refine E_callV (v := some (.int 0)) (As := [.ref 49]) (r0 := []) (cs2 := w0) rfl rfl rfl (Nat.le_of_ble_eq_true rfl) rfl rfl c30_X3_isOtherThanRow (by decide) rfl ?_
    refine E_if (t := 62) (b := false) rfl rfl (by decide) ?_
    refine E_aload rfl rfl ?_
    refine E_aload rfl rfl ?_
    refine E_callV (v := some (.int 0)) (As := [.ref 57, .ref 49]) (r0 := []) (cs2 := w0) rfl rfl rfl (Nat.le_of_ble_eq_true rfl) rfl rfl c96_X3_isOfOtherSort (by decide) rfl ?_
    refine E_if (t := 68) (b := true) rfl rfl (by decide) ?_
    refine E_aload rfl rfl ?_
    refine E_callV (v := some (.int 1)) (As := [.ref 57]) (r0 := []) (cs2 := w0) rfl rfl rfl (Nat.le_of_ble_eq_true rfl) rfl rfl c50_X3_isEmpty (by decide) rfl ?_
    refine E_if (t := 84) (b := true) rfl rfl (by decide) ?_
    refine E_aload_n rfl rfl ?_
    refine E_iconst (x := 3) rfl (by decide) ?_
    refine E_callV (v := some (.int (-3))) (As := [.ref 0, .int 3]) (r0 := []) (cs2 := (w0.set 48 (.inl [0, 0, 0, 1, 0, 0, 0, 0]))) rfl rfl rfl (Nat.le_of_ble_eq_true rfl) rfl rfl c32_X5_refuse (by decide) (by simp only [List.length_set]) ?_
    exact E_iret rfl rfl, by
    refine Ef.in (md := mX6_copy) (L := [some (.ref 65), some (.int 4), some (.int 0), some (.int a3), some (.int a4), some (.int a5), none]) rfl (Nat.le_of_ble_eq_true rfl) rfl ?_
    refine E_aload_n rfl rfl ?_
    refine E_iload_n rfl rfl ?_
    refine E_callV (v := some (.int 1)) (As := [.ref 65, .int 4]) (r0 := []) (cs2 := (w0.set 48 (.inl [0, 0, 0, 1, 0, 0, 0, 0]))) rfl rfl rfl (Nat.le_of_ble_eq_true rfl) rfl rfl c51_X6_isShelf (by decide) rfl ?_
    refine E_if (t := 16) (b := false) rfl rfl (by decide) ?_
    refine E_aload_n rfl rfl ?_
    refine E_iload_n rfl rfl ?_
    refine E_callV (v := some (.int 1)) (As := [.ref 65, .int 0]) (r0 := []) (cs2 := (w0.set 48 (.inl [0, 0, 0, 1, 0, 0, 0, 0]))) rfl rfl rfl (Nat.le_of_ble_eq_true rfl) rfl rfl c34_X6_isShelf (by decide) rfl ?_
    refine E_if (t := 22) (b := true) rfl rfl (by decide) ?_
    refine E_aload_n rfl rfl ?_
    refine E_getfield (v := .ref 76) rfl rfl rfl (by decide) rfl ?_
    refine E_iload_n rfl rfl ?_
    refine E_iaload (x := 0) (j := 4) rfl rfl (by decide) (by decide) rfl ?_
    refine E_iconst (x := 2) rfl (by decide) ?_
    refine E_ic (t := 77) (b := false) rfl rfl (by decide) ?_
    refine E_aload_n rfl rfl ?_
    refine E_getfield (v := .ref 76) rfl rfl rfl (by decide) rfl ?_
    refine E_iload_n rfl rfl ?_
    refine E_iaload (x := 0) (j := 0) rfl rfl (by decide) (by decide) rfl ?_
    refine E_iconst (x := 2) rfl (by decide) ?_
    refine E_ic (t := 77) (b := false) rfl rfl (by decide) ?_
    refine E_aload_n rfl rfl ?_
    refine E_getfield (v := .ref 76) rfl rfl rfl (by decide) rfl ?_
    refine E_iload_n rfl rfl ?_
    refine E_iaload (x := 0) (j := 4) rfl rfl (by decide) (by decide) rfl ?_
    refine E_iconst (x := 1) rfl (by decide) ?_
    refine E_ic (t := 84) (b := true) rfl rfl (by decide) ?_
    refine E_aload_n rfl rfl ?_
    refine E_getfield (v := .ref 76) rfl rfl rfl (by decide) rfl ?_
    refine E_iload_n rfl rfl ?_
    refine E_iaload (x := 0) (j := 4) rfl rfl (by decide) (by decide) rfl ?_
    refine E_if (t := 102) (b := true) rfl rfl (by decide) ?_
    refine E_aload_n rfl rfl ?_
    refine E_bipush (x := (-3)) rfl (by decide) ?_
    refine E_callV (v := some (.int (-3))) (As := [.ref 65, .int (-3)]) (r0 := []) (cs2 := ((w0.set 48 (.inl [0, 0, 0, 1, 0, 0, 0, 0])).set 66 (.inl [0, 0, 0, 1, 0, 0, 0, 0]))) rfl rfl rfl (Nat.le_of_ble_eq_true rfl) rfl rfl c35_X6_no (by decide) (by simp only [List.length_set]) ?_
    exact E_iret rfl rfl, (by simp only [List.length_set]; rfl), (by simp only [List.length_set]; rfl), ((ab_szs rfl).trans ((ab_szs rfl).trans rfl)), fun _ => rfl⟩
theorem f_copy_36 (a3 a4 a5 : Int32) : p1_P 3 78 2 137 [.ref 0, .int 4, .int 1, .int a3, .int a4, .int a5] [.ref 65, .int 4, .int 1, .int a3, .int a4, .int a5] :=
  ⟨(-3), (w0.set 48 (.inl [0, 0, 0, 1, 0, 0, 0, 0])), ((w0.set 48 (.inl [0, 0, 0, 1, 0, 0, 0, 0])).set 66 (.inl [0, 0, 0, 1, 0, 0, 0, 0])), by
    refine Ef.in (md := mX5_copy) (L := [some (.ref 0), some (.int 4), some (.int 1), some (.int a3), some (.int a4), some (.int a5), none, none]) rfl (Nat.le_of_ble_eq_true rfl) rfl ?_
    refine E_iload_n rfl rfl ?_
    refine E_callS (v := some (.int 1)) (As := [.int 4]) (r0 := []) (cs2 := w0) rfl rfl rfl (Nat.le_of_ble_eq_true rfl) rfl c18_X5_isShelf (by decide) rfl ?_
    refine E_if (t := 14) (b := false) rfl rfl (by decide) ?_
    refine E_iload_n rfl rfl ?_
    refine E_callS (v := some (.int 1)) (As := [.int 1]) (r0 := []) (cs2 := w0) rfl rfl rfl (Nat.le_of_ble_eq_true rfl) rfl c12_X5_isShelf (by decide) rfl ?_
    refine E_if (t := 20) (b := true) rfl rfl (by decide) ?_
    refine E_aload_n rfl rfl ?_
    refine E_getfield (v := .ref 31) rfl rfl rfl (by decide) rfl ?_
    refine E_iload_n rfl rfl ?_
    refine E_aaload (b := 57) (j := 4) rfl rfl (by decide) (by decide) rfl ?_
    refine E_astore (L2 := [some (.ref 0), some (.int 4), some (.int 1), some (.int a3), some (.int a4), some (.int a5), some (.ref 57), none]) rfl rfl ?_
    refine E_aload_n rfl rfl ?_
    refine E_getfield (v := .ref 31) rfl rfl rfl (by decide) rfl ?_
    refine E_iload_n rfl rfl ?_
    refine E_aaload (b := 51) (j := 1) rfl rfl (by decide) (by decide) rfl ?_
    refine E_astore (L2 := [some (.ref 0), some (.int 4), some (.int 1), some (.int a3), some (.int a4), some (.int a5), some (.ref 57), some (.ref 51)]) rfl rfl ?_
    refine E_aload rfl rfl ?_
    refine E_callV (v := some (.int 0)) (As := [.ref 57]) (r0 := []) (cs2 := w0) rfl rfl rfl (Nat.le_of_ble_eq_true rfl) rfl rfl c49_X3_isOtherThanRow (by decide) rfl ?_
    refine E_if (t := 62) (b := false) rfl rfl (by decide) ?_
    refine E_aload rfl rfl ?_
    refine E_callV (v := some (.int 0)) (As := [.ref 51]) (r0 := []) (cs2 := w0) rfl rfl rfl (Nat.le_of_ble_eq_true rfl) rfl rfl c37_X3_isOtherThanRow (by decide) rfl ?_
    refine E_if (t := 62) (b := false) rfl rfl (by decide) ?_
    refine E_aload rfl rfl ?_
    refine E_aload rfl rfl ?_
    refine E_callV (v := some (.int 0)) (As := [.ref 57, .ref 51]) (r0 := []) (cs2 := w0) rfl rfl rfl (Nat.le_of_ble_eq_true rfl) rfl rfl c97_X3_isOfOtherSort (by decide) rfl ?_
    refine E_if (t := 68) (b := true) rfl rfl (by decide) ?_
    refine E_aload rfl rfl ?_
    refine E_callV (v := some (.int 1)) (As := [.ref 57]) (r0 := []) (cs2 := w0) rfl rfl rfl (Nat.le_of_ble_eq_true rfl) rfl rfl c50_X3_isEmpty (by decide) rfl ?_
    refine E_if (t := 84) (b := true) rfl rfl (by decide) ?_
    refine E_aload_n rfl rfl ?_
    refine E_iconst (x := 3) rfl (by decide) ?_
    refine E_callV (v := some (.int (-3))) (As := [.ref 0, .int 3]) (r0 := []) (cs2 := (w0.set 48 (.inl [0, 0, 0, 1, 0, 0, 0, 0]))) rfl rfl rfl (Nat.le_of_ble_eq_true rfl) rfl rfl c32_X5_refuse (by decide) (by simp only [List.length_set]) ?_
    exact E_iret rfl rfl, by
    refine Ef.in (md := mX6_copy) (L := [some (.ref 65), some (.int 4), some (.int 1), some (.int a3), some (.int a4), some (.int a5), none]) rfl (Nat.le_of_ble_eq_true rfl) rfl ?_
    refine E_aload_n rfl rfl ?_
    refine E_iload_n rfl rfl ?_
    refine E_callV (v := some (.int 1)) (As := [.ref 65, .int 4]) (r0 := []) (cs2 := (w0.set 48 (.inl [0, 0, 0, 1, 0, 0, 0, 0]))) rfl rfl rfl (Nat.le_of_ble_eq_true rfl) rfl rfl c51_X6_isShelf (by decide) rfl ?_
    refine E_if (t := 16) (b := false) rfl rfl (by decide) ?_
    refine E_aload_n rfl rfl ?_
    refine E_iload_n rfl rfl ?_
    refine E_callV (v := some (.int 1)) (As := [.ref 65, .int 1]) (r0 := []) (cs2 := (w0.set 48 (.inl [0, 0, 0, 1, 0, 0, 0, 0]))) rfl rfl rfl (Nat.le_of_ble_eq_true rfl) rfl rfl c39_X6_isShelf (by decide) rfl ?_
    refine E_if (t := 22) (b := true) rfl rfl (by decide) ?_
    refine E_aload_n rfl rfl ?_
    refine E_getfield (v := .ref 76) rfl rfl rfl (by decide) rfl ?_
    refine E_iload_n rfl rfl ?_
    refine E_iaload (x := 0) (j := 4) rfl rfl (by decide) (by decide) rfl ?_
    refine E_iconst (x := 2) rfl (by decide) ?_
    refine E_ic (t := 77) (b := false) rfl rfl (by decide) ?_
    refine E_aload_n rfl rfl ?_
    refine E_getfield (v := .ref 76) rfl rfl rfl (by decide) rfl ?_
    refine E_iload_n rfl rfl ?_
    refine E_iaload (x := 0) (j := 1) rfl rfl (by decide) (by decide) rfl ?_
    refine E_iconst (x := 2) rfl (by decide) ?_
    refine E_ic (t := 77) (b := false) rfl rfl (by decide) ?_
    refine E_aload_n rfl rfl ?_
    refine E_getfield (v := .ref 76) rfl rfl rfl (by decide) rfl ?_
    refine E_iload_n rfl rfl ?_
    refine E_iaload (x := 0) (j := 4) rfl rfl (by decide) (by decide) rfl ?_
    refine E_iconst (x := 1) rfl (by decide) ?_
    refine E_ic (t := 84) (b := true) rfl rfl (by decide) ?_
    refine E_aload_n rfl rfl ?_
    refine E_getfield (v := .ref 76) rfl rfl rfl (by decide) rfl ?_
    refine E_iload_n rfl rfl ?_
    refine E_iaload (x := 0) (j := 4) rfl rfl (by decide) (by decide) rfl ?_
    refine E_if (t := 102) (b := true) rfl rfl (by decide) ?_
    refine E_aload_n rfl rfl ?_
    refine E_bipush (x := (-3)) rfl (by decide) ?_
    refine E_callV (v := some (.int (-3))) (As := [.ref 65, .int (-3)]) (r0 := []) (cs2 := ((w0.set 48 (.inl [0, 0, 0, 1, 0, 0, 0, 0])).set 66 (.inl [0, 0, 0, 1, 0, 0, 0, 0]))) rfl rfl rfl (Nat.le_of_ble_eq_true rfl) rfl rfl c35_X6_no (by decide) (by simp only [List.length_set]) ?_
    exact E_iret rfl rfl, (by simp only [List.length_set]; rfl), (by simp only [List.length_set]; rfl), ((ab_szs rfl).trans ((ab_szs rfl).trans rfl)), fun _ => rfl⟩
theorem f_copy_37 (a3 a4 a5 : Int32) : p1_P 3 78 2 137 [.ref 0, .int 4, .int 2, .int a3, .int a4, .int a5] [.ref 65, .int 4, .int 2, .int a3, .int a4, .int a5] :=
  ⟨(-3), (w0.set 48 (.inl [0, 0, 0, 1, 0, 0, 0, 0])), ((w0.set 48 (.inl [0, 0, 0, 1, 0, 0, 0, 0])).set 66 (.inl [0, 0, 0, 1, 0, 0, 0, 0])), by
    refine Ef.in (md := mX5_copy) (L := [some (.ref 0), some (.int 4), some (.int 2), some (.int a3), some (.int a4), some (.int a5), none, none]) rfl (Nat.le_of_ble_eq_true rfl) rfl ?_
    refine E_iload_n rfl rfl ?_
    refine E_callS (v := some (.int 1)) (As := [.int 4]) (r0 := []) (cs2 := w0) rfl rfl rfl (Nat.le_of_ble_eq_true rfl) rfl c18_X5_isShelf (by decide) rfl ?_
    refine E_if (t := 14) (b := false) rfl rfl (by decide) ?_
    refine E_iload_n rfl rfl ?_
    refine E_callS (v := some (.int 1)) (As := [.int 2]) (r0 := []) (cs2 := w0) rfl rfl rfl (Nat.le_of_ble_eq_true rfl) rfl c14_X5_isShelf (by decide) rfl ?_
    refine E_if (t := 20) (b := true) rfl rfl (by decide) ?_
    refine E_aload_n rfl rfl ?_
    refine E_getfield (v := .ref 31) rfl rfl rfl (by decide) rfl ?_
    refine E_iload_n rfl rfl ?_
    refine E_aaload (b := 57) (j := 4) rfl rfl (by decide) (by decide) rfl ?_
    refine E_astore (L2 := [some (.ref 0), some (.int 4), some (.int 2), some (.int a3), some (.int a4), some (.int a5), some (.ref 57), none]) rfl rfl ?_
    refine E_aload_n rfl rfl ?_
    refine E_getfield (v := .ref 31) rfl rfl rfl (by decide) rfl ?_
    refine E_iload_n rfl rfl ?_
    refine E_aaload (b := 53) (j := 2) rfl rfl (by decide) (by decide) rfl ?_
    refine E_astore (L2 := [some (.ref 0), some (.int 4), some (.int 2), some (.int a3), some (.int a4), some (.int a5), some (.ref 57), some (.ref 53)]) rfl rfl ?_
    refine E_aload rfl rfl ?_
    refine E_callV (v := some (.int 0)) (As := [.ref 57]) (r0 := []) (cs2 := w0) rfl rfl rfl (Nat.le_of_ble_eq_true rfl) rfl rfl c49_X3_isOtherThanRow (by decide) rfl ?_
    refine E_if (t := 62) (b := false) rfl rfl (by decide) ?_
    refine E_aload rfl rfl ?_
    refine E_callV (v := some (.int 0)) (As := [.ref 53]) (r0 := []) (cs2 := w0) rfl rfl rfl (Nat.le_of_ble_eq_true rfl) rfl rfl c41_X3_isOtherThanRow (by decide) rfl ?_
    refine E_if (t := 62) (b := false) rfl rfl (by decide) ?_
    refine E_aload rfl rfl ?_
    refine E_aload rfl rfl ?_
    refine E_callV (v := some (.int 0)) (As := [.ref 57, .ref 53]) (r0 := []) (cs2 := w0) rfl rfl rfl (Nat.le_of_ble_eq_true rfl) rfl rfl c98_X3_isOfOtherSort (by decide) rfl ?_
    refine E_if (t := 68) (b := true) rfl rfl (by decide) ?_
    refine E_aload rfl rfl ?_
    refine E_callV (v := some (.int 1)) (As := [.ref 57]) (r0 := []) (cs2 := w0) rfl rfl rfl (Nat.le_of_ble_eq_true rfl) rfl rfl c50_X3_isEmpty (by decide) rfl ?_
    refine E_if (t := 84) (b := true) rfl rfl (by decide) ?_
    refine E_aload_n rfl rfl ?_
    refine E_iconst (x := 3) rfl (by decide) ?_
    refine E_callV (v := some (.int (-3))) (As := [.ref 0, .int 3]) (r0 := []) (cs2 := (w0.set 48 (.inl [0, 0, 0, 1, 0, 0, 0, 0]))) rfl rfl rfl (Nat.le_of_ble_eq_true rfl) rfl rfl c32_X5_refuse (by decide) (by simp only [List.length_set]) ?_
    exact E_iret rfl rfl, by
    refine Ef.in (md := mX6_copy) (L := [some (.ref 65), some (.int 4), some (.int 2), some (.int a3), some (.int a4), some (.int a5), none]) rfl (Nat.le_of_ble_eq_true rfl) rfl ?_
    refine E_aload_n rfl rfl ?_
    refine E_iload_n rfl rfl ?_
    refine E_callV (v := some (.int 1)) (As := [.ref 65, .int 4]) (r0 := []) (cs2 := (w0.set 48 (.inl [0, 0, 0, 1, 0, 0, 0, 0]))) rfl rfl rfl (Nat.le_of_ble_eq_true rfl) rfl rfl c51_X6_isShelf (by decide) rfl ?_
    refine E_if (t := 16) (b := false) rfl rfl (by decide) ?_
    refine E_aload_n rfl rfl ?_
    refine E_iload_n rfl rfl ?_
    refine E_callV (v := some (.int 1)) (As := [.ref 65, .int 2]) (r0 := []) (cs2 := (w0.set 48 (.inl [0, 0, 0, 1, 0, 0, 0, 0]))) rfl rfl rfl (Nat.le_of_ble_eq_true rfl) rfl rfl c43_X6_isShelf (by decide) rfl ?_
    refine E_if (t := 22) (b := true) rfl rfl (by decide) ?_
    refine E_aload_n rfl rfl ?_
    refine E_getfield (v := .ref 76) rfl rfl rfl (by decide) rfl ?_
    refine E_iload_n rfl rfl ?_
    refine E_iaload (x := 0) (j := 4) rfl rfl (by decide) (by decide) rfl ?_
    refine E_iconst (x := 2) rfl (by decide) ?_
    refine E_ic (t := 77) (b := false) rfl rfl (by decide) ?_
    refine E_aload_n rfl rfl ?_
    refine E_getfield (v := .ref 76) rfl rfl rfl (by decide) rfl ?_
    refine E_iload_n rfl rfl ?_
    refine E_iaload (x := 0) (j := 2) rfl rfl (by decide) (by decide) rfl ?_
    refine E_iconst (x := 2) rfl (by decide) ?_
    refine E_ic (t := 77) (b := false) rfl rfl (by decide) ?_
    refine E_aload_n rfl rfl ?_
    refine E_getfield (v := .ref 76) rfl rfl rfl (by decide) rfl ?_
    refine E_iload_n rfl rfl ?_
    refine E_iaload (x := 0) (j := 4) rfl rfl (by decide) (by decide) rfl ?_
    refine E_iconst (x := 1) rfl (by decide) ?_
    refine E_ic (t := 84) (b := true) rfl rfl (by decide) ?_
    refine E_aload_n rfl rfl ?_
    refine E_getfield (v := .ref 76) rfl rfl rfl (by decide) rfl ?_
    refine E_iload_n rfl rfl ?_
    refine E_iaload (x := 0) (j := 4) rfl rfl (by decide) (by decide) rfl ?_
    refine E_if (t := 102) (b := true) rfl rfl (by decide) ?_
    refine E_aload_n rfl rfl ?_
    refine E_bipush (x := (-3)) rfl (by decide) ?_
    refine E_callV (v := some (.int (-3))) (As := [.ref 65, .int (-3)]) (r0 := []) (cs2 := ((w0.set 48 (.inl [0, 0, 0, 1, 0, 0, 0, 0])).set 66 (.inl [0, 0, 0, 1, 0, 0, 0, 0]))) rfl rfl rfl (Nat.le_of_ble_eq_true rfl) rfl rfl c35_X6_no (by decide) (by simp only [List.length_set]) ?_
    exact E_iret rfl rfl, (by simp only [List.length_set]; rfl), (by simp only [List.length_set]; rfl), ((ab_szs rfl).trans ((ab_szs rfl).trans rfl)), fun _ => rfl⟩
theorem f_copy_38 (a3 a4 a5 : Int32) : p1_P 3 78 2 137 [.ref 0, .int 4, .int 3, .int a3, .int a4, .int a5] [.ref 65, .int 4, .int 3, .int a3, .int a4, .int a5] :=
  ⟨(-3), (w0.set 48 (.inl [0, 0, 0, 1, 0, 0, 0, 0])), ((w0.set 48 (.inl [0, 0, 0, 1, 0, 0, 0, 0])).set 66 (.inl [0, 0, 0, 1, 0, 0, 0, 0])), by
    refine Ef.in (md := mX5_copy) (L := [some (.ref 0), some (.int 4), some (.int 3), some (.int a3), some (.int a4), some (.int a5), none, none]) rfl (Nat.le_of_ble_eq_true rfl) rfl ?_
    refine E_iload_n rfl rfl ?_
    refine E_callS (v := some (.int 1)) (As := [.int 4]) (r0 := []) (cs2 := w0) rfl rfl rfl (Nat.le_of_ble_eq_true rfl) rfl c18_X5_isShelf (by decide) rfl ?_
    refine E_if (t := 14) (b := false) rfl rfl (by decide) ?_
    refine E_iload_n rfl rfl ?_
    refine E_callS (v := some (.int 1)) (As := [.int 3]) (r0 := []) (cs2 := w0) rfl rfl rfl (Nat.le_of_ble_eq_true rfl) rfl c16_X5_isShelf (by decide) rfl ?_
    refine E_if (t := 20) (b := true) rfl rfl (by decide) ?_
    refine E_aload_n rfl rfl ?_
    refine E_getfield (v := .ref 31) rfl rfl rfl (by decide) rfl ?_
    refine E_iload_n rfl rfl ?_
    refine E_aaload (b := 57) (j := 4) rfl rfl (by decide) (by decide) rfl ?_
    refine E_astore (L2 := [some (.ref 0), some (.int 4), some (.int 3), some (.int a3), some (.int a4), some (.int a5), some (.ref 57), none]) rfl rfl ?_
    refine E_aload_n rfl rfl ?_
    refine E_getfield (v := .ref 31) rfl rfl rfl (by decide) rfl ?_
    refine E_iload_n rfl rfl ?_
    refine E_aaload (b := 55) (j := 3) rfl rfl (by decide) (by decide) rfl ?_
    refine E_astore (L2 := [some (.ref 0), some (.int 4), some (.int 3), some (.int a3), some (.int a4), some (.int a5), some (.ref 57), some (.ref 55)]) rfl rfl ?_
    refine E_aload rfl rfl ?_
    refine E_callV (v := some (.int 0)) (As := [.ref 57]) (r0 := []) (cs2 := w0) rfl rfl rfl (Nat.le_of_ble_eq_true rfl) rfl rfl c49_X3_isOtherThanRow (by decide) rfl ?_
    refine E_if (t := 62) (b := false) rfl rfl (by decide) ?_
    refine E_aload rfl rfl ?_
    refine E_callV (v := some (.int 0)) (As := [.ref 55]) (r0 := []) (cs2 := w0) rfl rfl rfl (Nat.le_of_ble_eq_true rfl) rfl rfl c45_X3_isOtherThanRow (by decide) rfl ?_
    refine E_if (t := 62) (b := false) rfl rfl (by decide) ?_
    refine E_aload rfl rfl ?_
    refine E_aload rfl rfl ?_
    refine E_callV (v := some (.int 0)) (As := [.ref 57, .ref 55]) (r0 := []) (cs2 := w0) rfl rfl rfl (Nat.le_of_ble_eq_true rfl) rfl rfl c99_X3_isOfOtherSort (by decide) rfl ?_
    refine E_if (t := 68) (b := true) rfl rfl (by decide) ?_
    refine E_aload rfl rfl ?_
    refine E_callV (v := some (.int 1)) (As := [.ref 57]) (r0 := []) (cs2 := w0) rfl rfl rfl (Nat.le_of_ble_eq_true rfl) rfl rfl c50_X3_isEmpty (by decide) rfl ?_
    refine E_if (t := 84) (b := true) rfl rfl (by decide) ?_
    refine E_aload_n rfl rfl ?_
    refine E_iconst (x := 3) rfl (by decide) ?_
    refine E_callV (v := some (.int (-3))) (As := [.ref 0, .int 3]) (r0 := []) (cs2 := (w0.set 48 (.inl [0, 0, 0, 1, 0, 0, 0, 0]))) rfl rfl rfl (Nat.le_of_ble_eq_true rfl) rfl rfl c32_X5_refuse (by decide) (by simp only [List.length_set]) ?_
    exact E_iret rfl rfl, by
    refine Ef.in (md := mX6_copy) (L := [some (.ref 65), some (.int 4), some (.int 3), some (.int a3), some (.int a4), some (.int a5), none]) rfl (Nat.le_of_ble_eq_true rfl) rfl ?_
    refine E_aload_n rfl rfl ?_
    refine E_iload_n rfl rfl ?_
    refine E_callV (v := some (.int 1)) (As := [.ref 65, .int 4]) (r0 := []) (cs2 := (w0.set 48 (.inl [0, 0, 0, 1, 0, 0, 0, 0]))) rfl rfl rfl (Nat.le_of_ble_eq_true rfl) rfl rfl c51_X6_isShelf (by decide) rfl ?_
    refine E_if (t := 16) (b := false) rfl rfl (by decide) ?_
    refine E_aload_n rfl rfl ?_
    refine E_iload_n rfl rfl ?_
    refine E_callV (v := some (.int 1)) (As := [.ref 65, .int 3]) (r0 := []) (cs2 := (w0.set 48 (.inl [0, 0, 0, 1, 0, 0, 0, 0]))) rfl rfl rfl (Nat.le_of_ble_eq_true rfl) rfl rfl c47_X6_isShelf (by decide) rfl ?_
    refine E_if (t := 22) (b := true) rfl rfl (by decide) ?_
    refine E_aload_n rfl rfl ?_
    refine E_getfield (v := .ref 76) rfl rfl rfl (by decide) rfl ?_
    refine E_iload_n rfl rfl ?_
    refine E_iaload (x := 0) (j := 4) rfl rfl (by decide) (by decide) rfl ?_
    refine E_iconst (x := 2) rfl (by decide) ?_
    refine E_ic (t := 77) (b := false) rfl rfl (by decide) ?_
    refine E_aload_n rfl rfl ?_
    refine E_getfield (v := .ref 76) rfl rfl rfl (by decide) rfl ?_
    refine E_iload_n rfl rfl ?_
    refine E_iaload (x := 0) (j := 3) rfl rfl (by decide) (by decide) rfl ?_
    refine E_iconst (x := 2) rfl (by decide) ?_
    refine E_ic (t := 77) (b := false) rfl rfl (by decide) ?_
    refine E_aload_n rfl rfl ?_
    refine E_getfield (v := .ref 76) rfl rfl rfl (by decide) rfl ?_
    refine E_iload_n rfl rfl ?_
    refine E_iaload (x := 0) (j := 4) rfl rfl (by decide) (by decide) rfl ?_
    refine E_iconst (x := 1) rfl (by decide) ?_
    refine E_ic (t := 84) (b := true) rfl rfl (by decide) ?_
    refine E_aload_n rfl rfl ?_
    refine E_getfield (v := .ref 76) rfl rfl rfl (by decide) rfl ?_
    refine E_iload_n rfl rfl ?_
    refine E_iaload (x := 0) (j := 4) rfl rfl (by decide) (by decide) rfl ?_
    refine E_if (t := 102) (b := true) rfl rfl (by decide) ?_
    refine E_aload_n rfl rfl ?_
    refine E_bipush (x := (-3)) rfl (by decide) ?_
    refine E_callV (v := some (.int (-3))) (As := [.ref 65, .int (-3)]) (r0 := []) (cs2 := ((w0.set 48 (.inl [0, 0, 0, 1, 0, 0, 0, 0])).set 66 (.inl [0, 0, 0, 1, 0, 0, 0, 0]))) rfl rfl rfl (Nat.le_of_ble_eq_true rfl) rfl rfl c35_X6_no (by decide) (by simp only [List.length_set]) ?_
    exact E_iret rfl rfl, (by simp only [List.length_set]; rfl), (by simp only [List.length_set]; rfl), ((ab_szs rfl).trans ((ab_szs rfl).trans rfl)), fun _ => rfl⟩
theorem f_copy_39 (a3 a4 a5 : Int32) : p1_P 3 78 2 137 [.ref 0, .int 4, .int 4, .int a3, .int a4, .int a5] [.ref 65, .int 4, .int 4, .int a3, .int a4, .int a5] :=
  ⟨(-3), (w0.set 48 (.inl [0, 0, 0, 1, 0, 0, 0, 0])), ((w0.set 48 (.inl [0, 0, 0, 1, 0, 0, 0, 0])).set 66 (.inl [0, 0, 0, 1, 0, 0, 0, 0])), by
    refine Ef.in (md := mX5_copy) (L := [some (.ref 0), some (.int 4), some (.int 4), some (.int a3), some (.int a4), some (.int a5), none, none]) rfl (Nat.le_of_ble_eq_true rfl) rfl ?_
    refine E_iload_n rfl rfl ?_
    refine E_callS (v := some (.int 1)) (As := [.int 4]) (r0 := []) (cs2 := w0) rfl rfl rfl (Nat.le_of_ble_eq_true rfl) rfl c18_X5_isShelf (by decide) rfl ?_
    refine E_if (t := 14) (b := false) rfl rfl (by decide) ?_
    refine E_iload_n rfl rfl ?_
    refine E_callS (v := some (.int 1)) (As := [.int 4]) (r0 := []) (cs2 := w0) rfl rfl rfl (Nat.le_of_ble_eq_true rfl) rfl c18_X5_isShelf (by decide) rfl ?_
    refine E_if (t := 20) (b := true) rfl rfl (by decide) ?_
    refine E_aload_n rfl rfl ?_
    refine E_getfield (v := .ref 31) rfl rfl rfl (by decide) rfl ?_
    refine E_iload_n rfl rfl ?_
    refine E_aaload (b := 57) (j := 4) rfl rfl (by decide) (by decide) rfl ?_
    refine E_astore (L2 := [some (.ref 0), some (.int 4), some (.int 4), some (.int a3), some (.int a4), some (.int a5), some (.ref 57), none]) rfl rfl ?_
    refine E_aload_n rfl rfl ?_
    refine E_getfield (v := .ref 31) rfl rfl rfl (by decide) rfl ?_
    refine E_iload_n rfl rfl ?_
    refine E_aaload (b := 57) (j := 4) rfl rfl (by decide) (by decide) rfl ?_
    refine E_astore (L2 := [some (.ref 0), some (.int 4), some (.int 4), some (.int a3), some (.int a4), some (.int a5), some (.ref 57), some (.ref 57)]) rfl rfl ?_
    refine E_aload rfl rfl ?_
    refine E_callV (v := some (.int 0)) (As := [.ref 57]) (r0 := []) (cs2 := w0) rfl rfl rfl (Nat.le_of_ble_eq_true rfl) rfl rfl c49_X3_isOtherThanRow (by decide) rfl ?_
    refine E_if (t := 62) (b := false) rfl rfl (by decide) ?_
    refine E_aload rfl rfl ?_
    refine E_callV (v := some (.int 0)) (As := [.ref 57]) (r0 := []) (cs2 := w0) rfl rfl rfl (Nat.le_of_ble_eq_true rfl) rfl rfl c49_X3_isOtherThanRow (by decide) rfl ?_
    refine E_if (t := 62) (b := false) rfl rfl (by decide) ?_
    refine E_aload rfl rfl ?_
    refine E_aload rfl rfl ?_
    refine E_callV (v := some (.int 0)) (As := [.ref 57, .ref 57]) (r0 := []) (cs2 := w0) rfl rfl rfl (Nat.le_of_ble_eq_true rfl) rfl rfl c100_X3_isOfOtherSort (by decide) rfl ?_
    refine E_if (t := 68) (b := true) rfl rfl (by decide) ?_
    refine E_aload rfl rfl ?_
    refine E_callV (v := some (.int 1)) (As := [.ref 57]) (r0 := []) (cs2 := w0) rfl rfl rfl (Nat.le_of_ble_eq_true rfl) rfl rfl c50_X3_isEmpty (by decide) rfl ?_
    refine E_if (t := 84) (b := true) rfl rfl (by decide) ?_
    refine E_aload_n rfl rfl ?_
    refine E_iconst (x := 3) rfl (by decide) ?_
    refine E_callV (v := some (.int (-3))) (As := [.ref 0, .int 3]) (r0 := []) (cs2 := (w0.set 48 (.inl [0, 0, 0, 1, 0, 0, 0, 0]))) rfl rfl rfl (Nat.le_of_ble_eq_true rfl) rfl rfl c32_X5_refuse (by decide) (by simp only [List.length_set]) ?_
    exact E_iret rfl rfl, by
    refine Ef.in (md := mX6_copy) (L := [some (.ref 65), some (.int 4), some (.int 4), some (.int a3), some (.int a4), some (.int a5), none]) rfl (Nat.le_of_ble_eq_true rfl) rfl ?_
    refine E_aload_n rfl rfl ?_
    refine E_iload_n rfl rfl ?_
    refine E_callV (v := some (.int 1)) (As := [.ref 65, .int 4]) (r0 := []) (cs2 := (w0.set 48 (.inl [0, 0, 0, 1, 0, 0, 0, 0]))) rfl rfl rfl (Nat.le_of_ble_eq_true rfl) rfl rfl c51_X6_isShelf (by decide) rfl ?_
    refine E_if (t := 16) (b := false) rfl rfl (by decide) ?_
    refine E_aload_n rfl rfl ?_
    refine E_iload_n rfl rfl ?_
    refine E_callV (v := some (.int 1)) (As := [.ref 65, .int 4]) (r0 := []) (cs2 := (w0.set 48 (.inl [0, 0, 0, 1, 0, 0, 0, 0]))) rfl rfl rfl (Nat.le_of_ble_eq_true rfl) rfl rfl c51_X6_isShelf (by decide) rfl ?_
    refine E_if (t := 22) (b := true) rfl rfl (by decide) ?_
    refine E_aload_n rfl rfl ?_
    refine E_getfield (v := .ref 76) rfl rfl rfl (by decide) rfl ?_
    refine E_iload_n rfl rfl ?_
    refine E_iaload (x := 0) (j := 4) rfl rfl (by decide) (by decide) rfl ?_
    refine E_iconst (x := 2) rfl (by decide) ?_
    refine E_ic (t := 77) (b := false) rfl rfl (by decide) ?_
    refine E_aload_n rfl rfl ?_
    refine E_getfield (v := .ref 76) rfl rfl rfl (by decide) rfl ?_
    refine E_iload_n rfl rfl ?_
    refine E_iaload (x := 0) (j := 4) rfl rfl (by decide) (by decide) rfl ?_
    refine E_iconst (x := 2) rfl (by decide) ?_
    refine E_ic (t := 77) (b := false) rfl rfl (by decide) ?_
    refine E_aload_n rfl rfl ?_
    refine E_getfield (v := .ref 76) rfl rfl rfl (by decide) rfl ?_
    refine E_iload_n rfl rfl ?_
    refine E_iaload (x := 0) (j := 4) rfl rfl (by decide) (by decide) rfl ?_
    refine E_iconst (x := 1) rfl (by decide) ?_
    refine E_ic (t := 84) (b := true) rfl rfl (by decide) ?_
    refine E_aload_n rfl rfl ?_
    refine E_getfield (v := .ref 76) rfl rfl rfl (by decide) rfl ?_
    refine E_iload_n rfl rfl ?_
    refine E_iaload (x := 0) (j := 4) rfl rfl (by decide) (by decide) rfl ?_
    refine E_if (t := 102) (b := true) rfl rfl (by decide) ?_
    refine E_aload_n rfl rfl ?_
    refine E_bipush (x := (-3)) rfl (by decide) ?_
    refine E_callV (v := some (.int (-3))) (As := [.ref 65, .int (-3)]) (r0 := []) (cs2 := ((w0.set 48 (.inl [0, 0, 0, 1, 0, 0, 0, 0])).set 66 (.inl [0, 0, 0, 1, 0, 0, 0, 0]))) rfl rfl rfl (Nat.le_of_ble_eq_true rfl) rfl rfl c35_X6_no (by decide) (by simp only [List.length_set]) ?_
    exact E_iret rfl rfl, (by simp only [List.length_set]; rfl), (by simp only [List.length_set]; rfl), ((ab_szs rfl).trans ((ab_szs rfl).trans rfl)), fun _ => rfl⟩
theorem f_copy_40 (a3 a4 a5 : Int32) : p1_P 3 78 2 137 [.ref 0, .int 4, .int 5, .int a3, .int a4, .int a5] [.ref 65, .int 4, .int 5, .int a3, .int a4, .int a5] :=
  ⟨(-3), (w0.set 48 (.inl [0, 0, 0, 1, 0, 0, 0, 0])), ((w0.set 48 (.inl [0, 0, 0, 1, 0, 0, 0, 0])).set 66 (.inl [0, 0, 0, 1, 0, 0, 0, 0])), by
    refine Ef.in (md := mX5_copy) (L := [some (.ref 0), some (.int 4), some (.int 5), some (.int a3), some (.int a4), some (.int a5), none, none]) rfl (Nat.le_of_ble_eq_true rfl) rfl ?_
    refine E_iload_n rfl rfl ?_
    refine E_callS (v := some (.int 1)) (As := [.int 4]) (r0 := []) (cs2 := w0) rfl rfl rfl (Nat.le_of_ble_eq_true rfl) rfl c18_X5_isShelf (by decide) rfl ?_
    refine E_if (t := 14) (b := false) rfl rfl (by decide) ?_
    refine E_iload_n rfl rfl ?_
    refine E_callS (v := some (.int 1)) (As := [.int 5]) (r0 := []) (cs2 := w0) rfl rfl rfl (Nat.le_of_ble_eq_true rfl) rfl c20_X5_isShelf (by decide) rfl ?_
    refine E_if (t := 20) (b := true) rfl rfl (by decide) ?_
    refine E_aload_n rfl rfl ?_
    refine E_getfield (v := .ref 31) rfl rfl rfl (by decide) rfl ?_
    refine E_iload_n rfl rfl ?_
    refine E_aaload (b := 57) (j := 4) rfl rfl (by decide) (by decide) rfl ?_
    refine E_astore (L2 := [some (.ref 0), some (.int 4), some (.int 5), some (.int a3), some (.int a4), some (.int a5), some (.ref 57), none]) rfl rfl ?_
    refine E_aload_n rfl rfl ?_
    refine E_getfield (v := .ref 31) rfl rfl rfl (by decide) rfl ?_
    refine E_iload_n rfl rfl ?_
    refine E_aaload (b := 59) (j := 5) rfl rfl (by decide) (by decide) rfl ?_
    refine E_astore (L2 := [some (.ref 0), some (.int 4), some (.int 5), some (.int a3), some (.int a4), some (.int a5), some (.ref 57), some (.ref 59)]) rfl rfl ?_
    refine E_aload rfl rfl ?_
    refine E_callV (v := some (.int 0)) (As := [.ref 57]) (r0 := []) (cs2 := w0) rfl rfl rfl (Nat.le_of_ble_eq_true rfl) rfl rfl c49_X3_isOtherThanRow (by decide) rfl ?_
    refine E_if (t := 62) (b := false) rfl rfl (by decide) ?_
    refine E_aload rfl rfl ?_
    refine E_callV (v := some (.int 0)) (As := [.ref 59]) (r0 := []) (cs2 := w0) rfl rfl rfl (Nat.le_of_ble_eq_true rfl) rfl rfl c53_X3_isOtherThanRow (by decide) rfl ?_
    refine E_if (t := 62) (b := false) rfl rfl (by decide) ?_
    refine E_aload rfl rfl ?_
    refine E_aload rfl rfl ?_
    refine E_callV (v := some (.int 0)) (As := [.ref 57, .ref 59]) (r0 := []) (cs2 := w0) rfl rfl rfl (Nat.le_of_ble_eq_true rfl) rfl rfl c101_X3_isOfOtherSort (by decide) rfl ?_
    refine E_if (t := 68) (b := true) rfl rfl (by decide) ?_
    refine E_aload rfl rfl ?_
    refine E_callV (v := some (.int 1)) (As := [.ref 57]) (r0 := []) (cs2 := w0) rfl rfl rfl (Nat.le_of_ble_eq_true rfl) rfl rfl c50_X3_isEmpty (by decide) rfl ?_
    refine E_if (t := 84) (b := true) rfl rfl (by decide) ?_
    refine E_aload_n rfl rfl ?_
    refine E_iconst (x := 3) rfl (by decide) ?_
    refine E_callV (v := some (.int (-3))) (As := [.ref 0, .int 3]) (r0 := []) (cs2 := (w0.set 48 (.inl [0, 0, 0, 1, 0, 0, 0, 0]))) rfl rfl rfl (Nat.le_of_ble_eq_true rfl) rfl rfl c32_X5_refuse (by decide) (by simp only [List.length_set]) ?_
    exact E_iret rfl rfl, by
    refine Ef.in (md := mX6_copy) (L := [some (.ref 65), some (.int 4), some (.int 5), some (.int a3), some (.int a4), some (.int a5), none]) rfl (Nat.le_of_ble_eq_true rfl) rfl ?_
    refine E_aload_n rfl rfl ?_
    refine E_iload_n rfl rfl ?_
    refine E_callV (v := some (.int 1)) (As := [.ref 65, .int 4]) (r0 := []) (cs2 := (w0.set 48 (.inl [0, 0, 0, 1, 0, 0, 0, 0]))) rfl rfl rfl (Nat.le_of_ble_eq_true rfl) rfl rfl c51_X6_isShelf (by decide) rfl ?_
    refine E_if (t := 16) (b := false) rfl rfl (by decide) ?_
    refine E_aload_n rfl rfl ?_
    refine E_iload_n rfl rfl ?_
    refine E_callV (v := some (.int 1)) (As := [.ref 65, .int 5]) (r0 := []) (cs2 := (w0.set 48 (.inl [0, 0, 0, 1, 0, 0, 0, 0]))) rfl rfl rfl (Nat.le_of_ble_eq_true rfl) rfl rfl c55_X6_isShelf (by decide) rfl ?_
    refine E_if (t := 22) (b := true) rfl rfl (by decide) ?_
    refine E_aload_n rfl rfl ?_
    refine E_getfield (v := .ref 76) rfl rfl rfl (by decide) rfl ?_
    refine E_iload_n rfl rfl ?_
    refine E_iaload (x := 0) (j := 4) rfl rfl (by decide) (by decide) rfl ?_
    refine E_iconst (x := 2) rfl (by decide) ?_
    refine E_ic (t := 77) (b := false) rfl rfl (by decide) ?_
    refine E_aload_n rfl rfl ?_
    refine E_getfield (v := .ref 76) rfl rfl rfl (by decide) rfl ?_
    refine E_iload_n rfl rfl ?_
    refine E_iaload (x := 0) (j := 5) rfl rfl (by decide) (by decide) rfl ?_
    refine E_iconst (x := 2) rfl (by decide) ?_
    refine E_ic (t := 77) (b := false) rfl rfl (by decide) ?_
    refine E_aload_n rfl rfl ?_
    refine E_getfield (v := .ref 76) rfl rfl rfl (by decide) rfl ?_
    refine E_iload_n rfl rfl ?_
    refine E_iaload (x := 0) (j := 4) rfl rfl (by decide) (by decide) rfl ?_
    refine E_iconst (x := 1) rfl (by decide) ?_
    refine E_ic (t := 84) (b := true) rfl rfl (by decide) ?_
    refine E_aload_n rfl rfl ?_
    refine E_getfield (v := .ref 76) rfl rfl rfl (by decide) rfl ?_
    refine E_iload_n rfl rfl ?_
    refine E_iaload (x := 0) (j := 4) rfl rfl (by decide) (by decide) rfl ?_
    refine E_if (t := 102) (b := true) rfl rfl (by decide) ?_
    refine E_aload_n rfl rfl ?_
    refine E_bipush (x := (-3)) rfl (by decide) ?_
    refine E_callV (v := some (.int (-3))) (As := [.ref 65, .int (-3)]) (r0 := []) (cs2 := ((w0.set 48 (.inl [0, 0, 0, 1, 0, 0, 0, 0])).set 66 (.inl [0, 0, 0, 1, 0, 0, 0, 0]))) rfl rfl rfl (Nat.le_of_ble_eq_true rfl) rfl rfl c35_X6_no (by decide) (by simp only [List.length_set]) ?_
    exact E_iret rfl rfl, (by simp only [List.length_set]; rfl), (by simp only [List.length_set]; rfl), ((ab_szs rfl).trans ((ab_szs rfl).trans rfl)), fun _ => rfl⟩
theorem f_copy_41 (a3 a4 a5 : Int32) : p1_P 3 78 2 137 [.ref 0, .int 4, .int 6, .int a3, .int a4, .int a5] [.ref 65, .int 4, .int 6, .int a3, .int a4, .int a5] :=
  ⟨(-3), (w0.set 48 (.inl [0, 0, 0, 1, 0, 0, 0, 0])), ((w0.set 48 (.inl [0, 0, 0, 1, 0, 0, 0, 0])).set 66 (.inl [0, 0, 0, 1, 0, 0, 0, 0])), by
    refine Ef.in (md := mX5_copy) (L := [some (.ref 0), some (.int 4), some (.int 6), some (.int a3), some (.int a4), some (.int a5), none, none]) rfl (Nat.le_of_ble_eq_true rfl) rfl ?_
    refine E_iload_n rfl rfl ?_
    refine E_callS (v := some (.int 1)) (As := [.int 4]) (r0 := []) (cs2 := w0) rfl rfl rfl (Nat.le_of_ble_eq_true rfl) rfl c18_X5_isShelf (by decide) rfl ?_
    refine E_if (t := 14) (b := false) rfl rfl (by decide) ?_
    refine E_iload_n rfl rfl ?_
    refine E_callS (v := some (.int 1)) (As := [.int 6]) (r0 := []) (cs2 := w0) rfl rfl rfl (Nat.le_of_ble_eq_true rfl) rfl c22_X5_isShelf (by decide) rfl ?_
    refine E_if (t := 20) (b := true) rfl rfl (by decide) ?_
    refine E_aload_n rfl rfl ?_
    refine E_getfield (v := .ref 31) rfl rfl rfl (by decide) rfl ?_
    refine E_iload_n rfl rfl ?_
    refine E_aaload (b := 57) (j := 4) rfl rfl (by decide) (by decide) rfl ?_
    refine E_astore (L2 := [some (.ref 0), some (.int 4), some (.int 6), some (.int a3), some (.int a4), some (.int a5), some (.ref 57), none]) rfl rfl ?_
    refine E_aload_n rfl rfl ?_
    refine E_getfield (v := .ref 31) rfl rfl rfl (by decide) rfl ?_
    refine E_iload_n rfl rfl ?_
    refine E_aaload (b := 61) (j := 6) rfl rfl (by decide) (by decide) rfl ?_
    refine E_astore (L2 := [some (.ref 0), some (.int 4), some (.int 6), some (.int a3), some (.int a4), some (.int a5), some (.ref 57), some (.ref 61)]) rfl rfl ?_
    refine E_aload rfl rfl ?_
    refine E_callV (v := some (.int 0)) (As := [.ref 57]) (r0 := []) (cs2 := w0) rfl rfl rfl (Nat.le_of_ble_eq_true rfl) rfl rfl c49_X3_isOtherThanRow (by decide) rfl ?_
    refine E_if (t := 62) (b := false) rfl rfl (by decide) ?_
    refine E_aload rfl rfl ?_
    refine E_callV (v := some (.int 0)) (As := [.ref 61]) (r0 := []) (cs2 := w0) rfl rfl rfl (Nat.le_of_ble_eq_true rfl) rfl rfl c57_X3_isOtherThanRow (by decide) rfl ?_
    refine E_if (t := 62) (b := false) rfl rfl (by decide) ?_
    refine E_aload rfl rfl ?_
    refine E_aload rfl rfl ?_
    refine E_callV (v := some (.int 0)) (As := [.ref 57, .ref 61]) (r0 := []) (cs2 := w0) rfl rfl rfl (Nat.le_of_ble_eq_true rfl) rfl rfl c102_X3_isOfOtherSort (by decide) rfl ?_
    refine E_if (t := 68) (b := true) rfl rfl (by decide) ?_
    refine E_aload rfl rfl ?_
    refine E_callV (v := some (.int 1)) (As := [.ref 57]) (r0 := []) (cs2 := w0) rfl rfl rfl (Nat.le_of_ble_eq_true rfl) rfl rfl c50_X3_isEmpty (by decide) rfl ?_
    refine E_if (t := 84) (b := true) rfl rfl (by decide) ?_
    refine E_aload_n rfl rfl ?_
    refine E_iconst (x := 3) rfl (by decide) ?_
    refine E_callV (v := some (.int (-3))) (As := [.ref 0, .int 3]) (r0 := []) (cs2 := (w0.set 48 (.inl [0, 0, 0, 1, 0, 0, 0, 0]))) rfl rfl rfl (Nat.le_of_ble_eq_true rfl) rfl rfl c32_X5_refuse (by decide) (by simp only [List.length_set]) ?_
    exact E_iret rfl rfl, by
    refine Ef.in (md := mX6_copy) (L := [some (.ref 65), some (.int 4), some (.int 6), some (.int a3), some (.int a4), some (.int a5), none]) rfl (Nat.le_of_ble_eq_true rfl) rfl ?_
    refine E_aload_n rfl rfl ?_
    refine E_iload_n rfl rfl ?_
    refine E_callV (v := some (.int 1)) (As := [.ref 65, .int 4]) (r0 := []) (cs2 := (w0.set 48 (.inl [0, 0, 0, 1, 0, 0, 0, 0]))) rfl rfl rfl (Nat.le_of_ble_eq_true rfl) rfl rfl c51_X6_isShelf (by decide) rfl ?_
    refine E_if (t := 16) (b := false) rfl rfl (by decide) ?_
    refine E_aload_n rfl rfl ?_
    refine E_iload_n rfl rfl ?_
    refine E_callV (v := some (.int 1)) (As := [.ref 65, .int 6]) (r0 := []) (cs2 := (w0.set 48 (.inl [0, 0, 0, 1, 0, 0, 0, 0]))) rfl rfl rfl (Nat.le_of_ble_eq_true rfl) rfl rfl c59_X6_isShelf (by decide) rfl ?_
    refine E_if (t := 22) (b := true) rfl rfl (by decide) ?_
    refine E_aload_n rfl rfl ?_
    refine E_getfield (v := .ref 76) rfl rfl rfl (by decide) rfl ?_
    refine E_iload_n rfl rfl ?_
    refine E_iaload (x := 0) (j := 4) rfl rfl (by decide) (by decide) rfl ?_
    refine E_iconst (x := 2) rfl (by decide) ?_
    refine E_ic (t := 77) (b := false) rfl rfl (by decide) ?_
    refine E_aload_n rfl rfl ?_
    refine E_getfield (v := .ref 76) rfl rfl rfl (by decide) rfl ?_
    refine E_iload_n rfl rfl ?_
    refine E_iaload (x := 0) (j := 6) rfl rfl (by decide) (by decide) rfl ?_
    refine E_iconst (x := 2) rfl (by decide) ?_
    refine E_ic (t := 77) (b := false) rfl rfl (by decide) ?_
    refine E_aload_n rfl rfl ?_
    refine E_getfield (v := .ref 76) rfl rfl rfl (by decide) rfl ?_
    refine E_iload_n rfl rfl ?_
    refine E_iaload (x := 0) (j := 4) rfl rfl (by decide) (by decide) rfl ?_
    refine E_iconst (x := 1) rfl (by decide) ?_
    refine E_ic (t := 84) (b := true) rfl rfl (by decide) ?_
    refine E_aload_n rfl rfl ?_
    refine E_getfield (v := .ref 76) rfl rfl rfl (by decide) rfl ?_
    refine E_iload_n rfl rfl ?_
    refine E_iaload (x := 0) (j := 4) rfl rfl (by decide) (by decide) rfl ?_
    refine E_if (t := 102) (b := true) rfl rfl (by decide) ?_
    refine E_aload_n rfl rfl ?_
    refine E_bipush (x := (-3)) rfl (by decide) ?_
    refine E_callV (v := some (.int (-3))) (As := [.ref 65, .int (-3)]) (r0 := []) (cs2 := ((w0.set 48 (.inl [0, 0, 0, 1, 0, 0, 0, 0])).set 66 (.inl [0, 0, 0, 1, 0, 0, 0, 0]))) rfl rfl rfl (Nat.le_of_ble_eq_true rfl) rfl rfl c35_X6_no (by decide) (by simp only [List.length_set]) ?_
    exact E_iret rfl rfl, (by simp only [List.length_set]; rfl), (by simp only [List.length_set]; rfl), ((ab_szs rfl).trans ((ab_szs rfl).trans rfl)), fun _ => rfl⟩
theorem f_copy_42 (a3 a4 a5 : Int32) : p1_P 3 78 2 137 [.ref 0, .int 4, .int 7, .int a3, .int a4, .int a5] [.ref 65, .int 4, .int 7, .int a3, .int a4, .int a5] :=
  ⟨(-3), (w0.set 48 (.inl [0, 0, 0, 1, 0, 0, 0, 0])), ((w0.set 48 (.inl [0, 0, 0, 1, 0, 0, 0, 0])).set 66 (.inl [0, 0, 0, 1, 0, 0, 0, 0])), by
    refine Ef.in (md := mX5_copy) (L := [some (.ref 0), some (.int 4), some (.int 7), some (.int a3), some (.int a4), some (.int a5), none, none]) rfl (Nat.le_of_ble_eq_true rfl) rfl ?_
    refine E_iload_n rfl rfl ?_
    refine E_callS (v := some (.int 1)) (As := [.int 4]) (r0 := []) (cs2 := w0) rfl rfl rfl (Nat.le_of_ble_eq_true rfl) rfl c18_X5_isShelf (by decide) rfl ?_
    refine E_if (t := 14) (b := false) rfl rfl (by decide) ?_
    refine E_iload_n rfl rfl ?_
    refine E_callS (v := some (.int 1)) (As := [.int 7]) (r0 := []) (cs2 := w0) rfl rfl rfl (Nat.le_of_ble_eq_true rfl) rfl c24_X5_isShelf (by decide) rfl ?_
    refine E_if (t := 20) (b := true) rfl rfl (by decide) ?_
    refine E_aload_n rfl rfl ?_
    refine E_getfield (v := .ref 31) rfl rfl rfl (by decide) rfl ?_
    refine E_iload_n rfl rfl ?_
    refine E_aaload (b := 57) (j := 4) rfl rfl (by decide) (by decide) rfl ?_
    refine E_astore (L2 := [some (.ref 0), some (.int 4), some (.int 7), some (.int a3), some (.int a4), some (.int a5), some (.ref 57), none]) rfl rfl ?_
    refine E_aload_n rfl rfl ?_
    refine E_getfield (v := .ref 31) rfl rfl rfl (by decide) rfl ?_
    refine E_iload_n rfl rfl ?_
    refine E_aaload (b := 63) (j := 7) rfl rfl (by decide) (by decide) rfl ?_
    refine E_astore (L2 := [some (.ref 0), some (.int 4), some (.int 7), some (.int a3), some (.int a4), some (.int a5), some (.ref 57), some (.ref 63)]) rfl rfl ?_
    refine E_aload rfl rfl ?_
    refine E_callV (v := some (.int 0)) (As := [.ref 57]) (r0 := []) (cs2 := w0) rfl rfl rfl (Nat.le_of_ble_eq_true rfl) rfl rfl c49_X3_isOtherThanRow (by decide) rfl ?_
    refine E_if (t := 62) (b := false) rfl rfl (by decide) ?_
    refine E_aload rfl rfl ?_
    refine E_callV (v := some (.int 0)) (As := [.ref 63]) (r0 := []) (cs2 := w0) rfl rfl rfl (Nat.le_of_ble_eq_true rfl) rfl rfl c61_X3_isOtherThanRow (by decide) rfl ?_
    refine E_if (t := 62) (b := false) rfl rfl (by decide) ?_
    refine E_aload rfl rfl ?_
    refine E_aload rfl rfl ?_
    refine E_callV (v := some (.int 0)) (As := [.ref 57, .ref 63]) (r0 := []) (cs2 := w0) rfl rfl rfl (Nat.le_of_ble_eq_true rfl) rfl rfl c103_X3_isOfOtherSort (by decide) rfl ?_
    refine E_if (t := 68) (b := true) rfl rfl (by decide) ?_
    refine E_aload rfl rfl ?_
    refine E_callV (v := some (.int 1)) (As := [.ref 57]) (r0 := []) (cs2 := w0) rfl rfl rfl (Nat.le_of_ble_eq_true rfl) rfl rfl c50_X3_isEmpty (by decide) rfl ?_
    refine E_if (t := 84) (b := true) rfl rfl (by decide) ?_
    refine E_aload_n rfl rfl ?_
    refine E_iconst (x := 3) rfl (by decide) ?_
    refine E_callV (v := some (.int (-3))) (As := [.ref 0, .int 3]) (r0 := []) (cs2 := (w0.set 48 (.inl [0, 0, 0, 1, 0, 0, 0, 0]))) rfl rfl rfl (Nat.le_of_ble_eq_true rfl) rfl rfl c32_X5_refuse (by decide) (by simp only [List.length_set]) ?_
    exact E_iret rfl rfl, by
    refine Ef.in (md := mX6_copy) (L := [some (.ref 65), some (.int 4), some (.int 7), some (.int a3), some (.int a4), some (.int a5), none]) rfl (Nat.le_of_ble_eq_true rfl) rfl ?_
    refine E_aload_n rfl rfl ?_
    refine E_iload_n rfl rfl ?_
    refine E_callV (v := some (.int 1)) (As := [.ref 65, .int 4]) (r0 := []) (cs2 := (w0.set 48 (.inl [0, 0, 0, 1, 0, 0, 0, 0]))) rfl rfl rfl (Nat.le_of_ble_eq_true rfl) rfl rfl c51_X6_isShelf (by decide) rfl ?_
    refine E_if (t := 16) (b := false) rfl rfl (by decide) ?_
    refine E_aload_n rfl rfl ?_
    refine E_iload_n rfl rfl ?_
    refine E_callV (v := some (.int 1)) (As := [.ref 65, .int 7]) (r0 := []) (cs2 := (w0.set 48 (.inl [0, 0, 0, 1, 0, 0, 0, 0]))) rfl rfl rfl (Nat.le_of_ble_eq_true rfl) rfl rfl c63_X6_isShelf (by decide) rfl ?_
    refine E_if (t := 22) (b := true) rfl rfl (by decide) ?_
    refine E_aload_n rfl rfl ?_
    refine E_getfield (v := .ref 76) rfl rfl rfl (by decide) rfl ?_
    refine E_iload_n rfl rfl ?_
    refine E_iaload (x := 0) (j := 4) rfl rfl (by decide) (by decide) rfl ?_
    refine E_iconst (x := 2) rfl (by decide) ?_
    refine E_ic (t := 77) (b := false) rfl rfl (by decide) ?_
    refine E_aload_n rfl rfl ?_
    refine E_getfield (v := .ref 76) rfl rfl rfl (by decide) rfl ?_
    refine E_iload_n rfl rfl ?_
    refine E_iaload (x := 0) (j := 7) rfl rfl (by decide) (by decide) rfl ?_
    refine E_iconst (x := 2) rfl (by decide) ?_
    refine E_ic (t := 77) (b := false) rfl rfl (by decide) ?_
    refine E_aload_n rfl rfl ?_
    refine E_getfield (v := .ref 76) rfl rfl rfl (by decide) rfl ?_
    refine E_iload_n rfl rfl ?_
    refine E_iaload (x := 0) (j := 4) rfl rfl (by decide) (by decide) rfl ?_
    refine E_iconst (x := 1) rfl (by decide) ?_
    refine E_ic (t := 84) (b := true) rfl rfl (by decide) ?_
    refine E_aload_n rfl rfl ?_
    refine E_getfield (v := .ref 76) rfl rfl rfl (by decide) rfl ?_
    refine E_iload_n rfl rfl ?_
    refine E_iaload (x := 0) (j := 4) rfl rfl (by decide) (by decide) rfl ?_
    refine E_if (t := 102) (b := true) rfl rfl (by decide) ?_
    refine E_aload_n rfl rfl ?_
    refine E_bipush (x := (-3)) rfl (by decide) ?_
    refine E_callV (v := some (.int (-3))) (As := [.ref 65, .int (-3)]) (r0 := []) (cs2 := ((w0.set 48 (.inl [0, 0, 0, 1, 0, 0, 0, 0])).set 66 (.inl [0, 0, 0, 1, 0, 0, 0, 0]))) rfl rfl rfl (Nat.le_of_ble_eq_true rfl) rfl rfl c35_X6_no (by decide) (by simp only [List.length_set]) ?_
    exact E_iret rfl rfl, (by simp only [List.length_set]; rfl), (by simp only [List.length_set]; rfl), ((ab_szs rfl).trans ((ab_szs rfl).trans rfl)), fun _ => rfl⟩
theorem f_copy_43 (a3 a4 a5 : Int32) : p1_P 3 78 2 137 [.ref 0, .int 5, .int 0, .int a3, .int a4, .int a5] [.ref 65, .int 5, .int 0, .int a3, .int a4, .int a5] :=
  ⟨(-3), (w0.set 48 (.inl [0, 0, 0, 1, 0, 0, 0, 0])), ((w0.set 48 (.inl [0, 0, 0, 1, 0, 0, 0, 0])).set 66 (.inl [0, 0, 0, 1, 0, 0, 0, 0])), by
    refine Ef.in (md := mX5_copy) (L := [some (.ref 0), some (.int 5), some (.int 0), some (.int a3), some (.int a4), some (.int a5), none, none]) rfl (Nat.le_of_ble_eq_true rfl) rfl ?_
    refine E_iload_n rfl rfl ?_
    refine E_callS (v := some (.int 1)) (As := [.int 5]) (r0 := []) (cs2 := w0) rfl rfl rfl (Nat.le_of_ble_eq_true rfl) rfl c20_X5_isShelf (by decide) rfl ?_
    refine E_if (t := 14) (b := false) rfl rfl (by decide) ?_
    refine E_iload_n rfl rfl ?_
    refine E_callS (v := some (.int 1)) (As := [.int 0]) (r0 := []) (cs2 := w0) rfl rfl rfl (Nat.le_of_ble_eq_true rfl) rfl c10_X5_isShelf (by decide) rfl ?_
    refine E_if (t := 20) (b := true) rfl rfl (by decide) ?_
    refine E_aload_n rfl rfl ?_
    refine E_getfield (v := .ref 31) rfl rfl rfl (by decide) rfl ?_
    refine E_iload_n rfl rfl ?_
    refine E_aaload (b := 59) (j := 5) rfl rfl (by decide) (by decide) rfl ?_
    refine E_astore (L2 := [some (.ref 0), some (.int 5), some (.int 0), some (.int a3), some (.int a4), some (.int a5), some (.ref 59), none]) rfl rfl ?_
    refine E_aload_n rfl rfl ?_
    refine E_getfield (v := .ref 31) rfl rfl rfl (by decide) rfl ?_
    refine E_iload_n rfl rfl ?_
    refine E_aaload (b := 49) (j := 0) rfl rfl (by decide) (by decide) rfl ?_
    refine E_astore (L2 := [some (.ref 0), some (.int 5), some (.int 0), some (.int a3), some (.int a4), some (.int a5), some (.ref 59), some (.ref 49)]) rfl rfl ?_
    refine E_aload rfl rfl ?_
    refine E_callV (v := some (.int 0)) (As := [.ref 59]) (r0 := []) (cs2 := w0) rfl rfl rfl (Nat.le_of_ble_eq_true rfl) rfl rfl c53_X3_isOtherThanRow (by decide) rfl ?_
    refine E_if (t := 62) (b := false) rfl rfl (by decide) ?_
    refine E_aload rfl rfl ?_
    refine E_callV (v := some (.int 0)) (As := [.ref 49]) (r0 := []) (cs2 := w0) rfl rfl rfl (Nat.le_of_ble_eq_true rfl) rfl rfl c30_X3_isOtherThanRow (by decide) rfl ?_
    refine E_if (t := 62) (b := false) rfl rfl (by decide) ?_
    refine E_aload rfl rfl ?_
    refine E_aload rfl rfl ?_
    refine E_callV (v := some (.int 0)) (As := [.ref 59, .ref 49]) (r0 := []) (cs2 := w0) rfl rfl rfl (Nat.le_of_ble_eq_true rfl) rfl rfl c104_X3_isOfOtherSort (by decide) rfl ?_
    refine E_if (t := 68) (b := true) rfl rfl (by decide) ?_
    refine E_aload rfl rfl ?_
    refine E_callV (v := some (.int 1)) (As := [.ref 59]) (r0 := []) (cs2 := w0) rfl rfl rfl (Nat.le_of_ble_eq_true rfl) rfl rfl c54_X3_isEmpty (by decide) rfl ?_
    refine E_if (t := 84) (b := true) rfl rfl (by decide) ?_
    refine E_aload_n rfl rfl ?_
    refine E_iconst (x := 3) rfl (by decide) ?_
    refine E_callV (v := some (.int (-3))) (As := [.ref 0, .int 3]) (r0 := []) (cs2 := (w0.set 48 (.inl [0, 0, 0, 1, 0, 0, 0, 0]))) rfl rfl rfl (Nat.le_of_ble_eq_true rfl) rfl rfl c32_X5_refuse (by decide) (by simp only [List.length_set]) ?_
    exact E_iret rfl rfl, by
    refine Ef.in (md := mX6_copy) (L := [some (.ref 65), some (.int 5), some (.int 0), some (.int a3), some (.int a4), some (.int a5), none]) rfl (Nat.le_of_ble_eq_true rfl) rfl ?_
    refine E_aload_n rfl rfl ?_
    refine E_iload_n rfl rfl ?_
    refine E_callV (v := some (.int 1)) (As := [.ref 65, .int 5]) (r0 := []) (cs2 := (w0.set 48 (.inl [0, 0, 0, 1, 0, 0, 0, 0]))) rfl rfl rfl (Nat.le_of_ble_eq_true rfl) rfl rfl c55_X6_isShelf (by decide) rfl ?_
    refine E_if (t := 16) (b := false) rfl rfl (by decide) ?_
    refine E_aload_n rfl rfl ?_
    refine E_iload_n rfl rfl ?_
    refine E_callV (v := some (.int 1)) (As := [.ref 65, .int 0]) (r0 := []) (cs2 := (w0.set 48 (.inl [0, 0, 0, 1, 0, 0, 0, 0]))) rfl rfl rfl (Nat.le_of_ble_eq_true rfl) rfl rfl c34_X6_isShelf (by decide) rfl ?_
    refine E_if (t := 22) (b := true) rfl rfl (by decide) ?_
    refine E_aload_n rfl rfl ?_
    refine E_getfield (v := .ref 76) rfl rfl rfl (by decide) rfl ?_
    refine E_iload_n rfl rfl ?_
    refine E_iaload (x := 0) (j := 5) rfl rfl (by decide) (by decide) rfl ?_
    refine E_iconst (x := 2) rfl (by decide) ?_
    refine E_ic (t := 77) (b := false) rfl rfl (by decide) ?_
    refine E_aload_n rfl rfl ?_
    refine E_getfield (v := .ref 76) rfl rfl rfl (by decide) rfl ?_
    refine E_iload_n rfl rfl ?_
    refine E_iaload (x := 0) (j := 0) rfl rfl (by decide) (by decide) rfl ?_
    refine E_iconst (x := 2) rfl (by decide) ?_
    refine E_ic (t := 77) (b := false) rfl rfl (by decide) ?_
    refine E_aload_n rfl rfl ?_
    refine E_getfield (v := .ref 76) rfl rfl rfl (by decide) rfl ?_
    refine E_iload_n rfl rfl ?_
    refine E_iaload (x := 0) (j := 5) rfl rfl (by decide) (by decide) rfl ?_
    refine E_iconst (x := 1) rfl (by decide) ?_
    refine E_ic (t := 84) (b := true) rfl rfl (by decide) ?_
    refine E_aload_n rfl rfl ?_
    refine E_getfield (v := .ref 76) rfl rfl rfl (by decide) rfl ?_
    refine E_iload_n rfl rfl ?_
    refine E_iaload (x := 0) (j := 5) rfl rfl (by decide) (by decide) rfl ?_
    refine E_if (t := 102) (b := true) rfl rfl (by decide) ?_
    refine E_aload_n rfl rfl ?_
    refine E_bipush (x := (-3)) rfl (by decide) ?_
    refine E_callV (v := some (.int (-3))) (As := [.ref 65, .int (-3)]) (r0 := []) (cs2 := ((w0.set 48 (.inl [0, 0, 0, 1, 0, 0, 0, 0])).set 66 (.inl [0, 0, 0, 1, 0, 0, 0, 0]))) rfl rfl rfl (Nat.le_of_ble_eq_true rfl) rfl rfl c35_X6_no (by decide) (by simp only [List.length_set]) ?_
    exact E_iret rfl rfl, (by simp only [List.length_set]; rfl), (by simp only [List.length_set]; rfl), ((ab_szs rfl).trans ((ab_szs rfl).trans rfl)), fun _ => rfl⟩
theorem f_copy_44 (a3 a4 a5 : Int32) : p1_P 3 78 2 137 [.ref 0, .int 5, .int 1, .int a3, .int a4, .int a5] [.ref 65, .int 5, .int 1, .int a3, .int a4, .int a5] :=
  ⟨(-3), (w0.set 48 (.inl [0, 0, 0, 1, 0, 0, 0, 0])), ((w0.set 48 (.inl [0, 0, 0, 1, 0, 0, 0, 0])).set 66 (.inl [0, 0, 0, 1, 0, 0, 0, 0])), by
    refine Ef.in (md := mX5_copy) (L := [some (.ref 0), some (.int 5), some (.int 1), some (.int a3), some (.int a4), some (.int a5), none, none]) rfl (Nat.le_of_ble_eq_true rfl) rfl ?_
    refine E_iload_n rfl rfl ?_
    refine E_callS (v := some (.int 1)) (As := [.int 5]) (r0 := []) (cs2 := w0) rfl rfl rfl (Nat.le_of_ble_eq_true rfl) rfl c20_X5_isShelf (by decide) rfl ?_
    refine E_if (t := 14) (b := false) rfl rfl (by decide) ?_
    refine E_iload_n rfl rfl ?_
    refine E_callS (v := some (.int 1)) (As := [.int 1]) (r0 := []) (cs2 := w0) rfl rfl rfl (Nat.le_of_ble_eq_true rfl) rfl c12_X5_isShelf (by decide) rfl ?_
    refine E_if (t := 20) (b := true) rfl rfl (by decide) ?_
    refine E_aload_n rfl rfl ?_
    refine E_getfield (v := .ref 31) rfl rfl rfl (by decide) rfl ?_
    refine E_iload_n rfl rfl ?_
    refine E_aaload (b := 59) (j := 5) rfl rfl (by decide) (by decide) rfl ?_
    refine E_astore (L2 := [some (.ref 0), some (.int 5), some (.int 1), some (.int a3), some (.int a4), some (.int a5), some (.ref 59), none]) rfl rfl ?_
    refine E_aload_n rfl rfl ?_
    refine E_getfield (v := .ref 31) rfl rfl rfl (by decide) rfl ?_
    refine E_iload_n rfl rfl ?_
    refine E_aaload (b := 51) (j := 1) rfl rfl (by decide) (by decide) rfl ?_
    refine E_astore (L2 := [some (.ref 0), some (.int 5), some (.int 1), some (.int a3), some (.int a4), some (.int a5), some (.ref 59), some (.ref 51)]) rfl rfl ?_
    refine E_aload rfl rfl ?_
    refine E_callV (v := some (.int 0)) (As := [.ref 59]) (r0 := []) (cs2 := w0) rfl rfl rfl (Nat.le_of_ble_eq_true rfl) rfl rfl c53_X3_isOtherThanRow (by decide) rfl ?_
    refine E_if (t := 62) (b := false) rfl rfl (by decide) ?_
    refine E_aload rfl rfl ?_
    refine E_callV (v := some (.int 0)) (As := [.ref 51]) (r0 := []) (cs2 := w0) rfl rfl rfl (Nat.le_of_ble_eq_true rfl) rfl rfl c37_X3_isOtherThanRow (by decide) rfl ?_
    refine E_if (t := 62) (b := false) rfl rfl (by decide) ?_
    refine E_aload rfl rfl ?_
    refine E_aload rfl rfl ?_
    refine E_callV (v := some (.int 0)) (As := [.ref 59, .ref 51]) (r0 := []) (cs2 := w0) rfl rfl rfl (Nat.le_of_ble_eq_true rfl) rfl rfl c105_X3_isOfOtherSort (by decide) rfl ?_
    refine E_if (t := 68) (b := true) rfl rfl (by decide) ?_
    refine E_aload rfl rfl ?_
    refine E_callV (v := some (.int 1)) (As := [.ref 59]) (r0 := []) (cs2 := w0) rfl rfl rfl (Nat.le_of_ble_eq_true rfl) rfl rfl c54_X3_isEmpty (by decide) rfl ?_
    refine E_if (t := 84) (b := true) rfl rfl (by decide) ?_
    refine E_aload_n rfl rfl ?_
    refine E_iconst (x := 3) rfl (by decide) ?_
    refine E_callV (v := some (.int (-3))) (As := [.ref 0, .int 3]) (r0 := []) (cs2 := (w0.set 48 (.inl [0, 0, 0, 1, 0, 0, 0, 0]))) rfl rfl rfl (Nat.le_of_ble_eq_true rfl) rfl rfl c32_X5_refuse (by decide) (by simp only [List.length_set]) ?_
    exact E_iret rfl rfl, by
    refine Ef.in (md := mX6_copy) (L := [some (.ref 65), some (.int 5), some (.int 1), some (.int a3), some (.int a4), some (.int a5), none]) rfl (Nat.le_of_ble_eq_true rfl) rfl ?_
    refine E_aload_n rfl rfl ?_
    refine E_iload_n rfl rfl ?_
    refine E_callV (v := some (.int 1)) (As := [.ref 65, .int 5]) (r0 := []) (cs2 := (w0.set 48 (.inl [0, 0, 0, 1, 0, 0, 0, 0]))) rfl rfl rfl (Nat.le_of_ble_eq_true rfl) rfl rfl c55_X6_isShelf (by decide) rfl ?_
    refine E_if (t := 16) (b := false) rfl rfl (by decide) ?_
    refine E_aload_n rfl rfl ?_
    refine E_iload_n rfl rfl ?_
    refine E_callV (v := some (.int 1)) (As := [.ref 65, .int 1]) (r0 := []) (cs2 := (w0.set 48 (.inl [0, 0, 0, 1, 0, 0, 0, 0]))) rfl rfl rfl (Nat.le_of_ble_eq_true rfl) rfl rfl c39_X6_isShelf (by decide) rfl ?_
    refine E_if (t := 22) (b := true) rfl rfl (by decide) ?_
    refine E_aload_n rfl rfl ?_
    refine E_getfield (v := .ref 76) rfl rfl rfl (by decide) rfl ?_
    refine E_iload_n rfl rfl ?_
    refine E_iaload (x := 0) (j := 5) rfl rfl (by decide) (by decide) rfl ?_
    refine E_iconst (x := 2) rfl (by decide) ?_
    refine E_ic (t := 77) (b := false) rfl rfl (by decide) ?_
    refine E_aload_n rfl rfl ?_
    refine E_getfield (v := .ref 76) rfl rfl rfl (by decide) rfl ?_
    refine E_iload_n rfl rfl ?_
    refine E_iaload (x := 0) (j := 1) rfl rfl (by decide) (by decide) rfl ?_
    refine E_iconst (x := 2) rfl (by decide) ?_
    refine E_ic (t := 77) (b := false) rfl rfl (by decide) ?_
    refine E_aload_n rfl rfl ?_
    refine E_getfield (v := .ref 76) rfl rfl rfl (by decide) rfl ?_
    refine E_iload_n rfl rfl ?_
    refine E_iaload (x := 0) (j := 5) rfl rfl (by decide) (by decide) rfl ?_
    refine E_iconst (x := 1) rfl (by decide) ?_
    refine E_ic (t := 84) (b := true) rfl rfl (by decide) ?_
    refine E_aload_n rfl rfl ?_
    refine E_getfield (v := .ref 76) rfl rfl rfl (by decide) rfl ?_
    refine E_iload_n rfl rfl ?_
    refine E_iaload (x := 0) (j := 5) rfl rfl (by decide) (by decide) rfl ?_
    refine E_if (t := 102) (b := true) rfl rfl (by decide) ?_
    refine E_aload_n rfl rfl ?_
    refine E_bipush (x := (-3)) rfl (by decide) ?_
    refine E_callV (v := some (.int (-3))) (As := [.ref 65, .int (-3)]) (r0 := []) (cs2 := ((w0.set 48 (.inl [0, 0, 0, 1, 0, 0, 0, 0])).set 66 (.inl [0, 0, 0, 1, 0, 0, 0, 0]))) rfl rfl rfl (Nat.le_of_ble_eq_true rfl) rfl rfl c35_X6_no (by decide) (by simp only [List.length_set]) ?_
    exact E_iret rfl rfl, (by simp only [List.length_set]; rfl), (by simp only [List.length_set]; rfl), ((ab_szs rfl).trans ((ab_szs rfl).trans rfl)), fun _ => rfl⟩
theorem f_copy_45 (a3 a4 a5 : Int32) : p1_P 3 78 2 137 [.ref 0, .int 5, .int 2, .int a3, .int a4, .int a5] [.ref 65, .int 5, .int 2, .int a3, .int a4, .int a5] :=
  ⟨(-3), (w0.set 48 (.inl [0, 0, 0, 1, 0, 0, 0, 0])), ((w0.set 48 (.inl [0, 0, 0, 1, 0, 0, 0, 0])).set 66 (.inl [0, 0, 0, 1, 0, 0, 0, 0])), by
    refine Ef.in (md := mX5_copy) (L := [some (.ref 0), some (.int 5), some (.int 2), some (.int a3), some (.int a4), some (.int a5), none, none]) rfl (Nat.le_of_ble_eq_true rfl) rfl ?_
    refine E_iload_n rfl rfl ?_
    refine E_callS (v := some (.int 1)) (As := [.int 5]) (r0 := []) (cs2 := w0) rfl rfl rfl (Nat.le_of_ble_eq_true rfl) rfl c20_X5_isShelf (by decide) rfl ?_
    refine E_if (t := 14) (b := false) rfl rfl (by decide) ?_
    refine E_iload_n rfl rfl ?_
    refine E_callS (v := some (.int 1)) (As := [.int 2]) (r0 := []) (cs2 := w0) rfl rfl rfl (Nat.le_of_ble_eq_true rfl) rfl c14_X5_isShelf (by decide) rfl ?_
    refine E_if (t := 20) (b := true) rfl rfl (by decide) ?_
    refine E_aload_n rfl rfl ?_
    refine E_getfield (v := .ref 31) rfl rfl rfl (by decide) rfl ?_
    refine E_iload_n rfl rfl ?_
    refine E_aaload (b := 59) (j := 5) rfl rfl (by decide) (by decide) rfl ?_
    refine E_astore (L2 := [some (.ref 0), some (.int 5), some (.int 2), some (.int a3), some (.int a4), some (.int a5), some (.ref 59), none]) rfl rfl ?_
    refine E_aload_n rfl rfl ?_
    refine E_getfield (v := .ref 31) rfl rfl rfl (by decide) rfl ?_
    refine E_iload_n rfl rfl ?_
    refine E_aaload (b := 53) (j := 2) rfl rfl (by decide) (by decide) rfl ?_
    refine E_astore (L2 := [some (.ref 0), some (.int 5), some (.int 2), some (.int a3), some (.int a4), some (.int a5), some (.ref 59), some (.ref 53)]) rfl rfl ?_
    refine E_aload rfl rfl ?_
    refine E_callV (v := some (.int 0)) (As := [.ref 59]) (r0 := []) (cs2 := w0) rfl rfl rfl (Nat.le_of_ble_eq_true rfl) rfl rfl c53_X3_isOtherThanRow (by decide) rfl ?_
    refine E_if (t := 62) (b := false) rfl rfl (by decide) ?_
    refine E_aload rfl rfl ?_
    refine E_callV (v := some (.int 0)) (As := [.ref 53]) (r0 := []) (cs2 := w0) rfl rfl rfl (Nat.le_of_ble_eq_true rfl) rfl rfl c41_X3_isOtherThanRow (by decide) rfl ?_
    refine E_if (t := 62) (b := false) rfl rfl (by decide) ?_
    refine E_aload rfl rfl ?_
    refine E_aload rfl rfl ?_
    refine E_callV (v := some (.int 0)) (As := [.ref 59, .ref 53]) (r0 := []) (cs2 := w0) rfl rfl rfl (Nat.le_of_ble_eq_true rfl) rfl rfl c106_X3_isOfOtherSort (by decide) rfl ?_
    refine E_if (t := 68) (b := true) rfl rfl (by decide) ?_
    refine E_aload rfl rfl ?_
    refine E_callV (v := some (.int 1)) (As := [.ref 59]) (r0 := []) (cs2 := w0) rfl rfl rfl (Nat.le_of_ble_eq_true rfl) rfl rfl c54_X3_isEmpty (by decide) rfl ?_
    refine E_if (t := 84) (b := true) rfl rfl (by decide) ?_
    refine E_aload_n rfl rfl ?_
    refine E_iconst (x := 3) rfl (by decide) ?_
    refine E_callV (v := some (.int (-3))) (As := [.ref 0, .int 3]) (r0 := []) (cs2 := (w0.set 48 (.inl [0, 0, 0, 1, 0, 0, 0, 0]))) rfl rfl rfl (Nat.le_of_ble_eq_true rfl) rfl rfl c32_X5_refuse (by decide) (by simp only [List.length_set]) ?_
    exact E_iret rfl rfl, by
    refine Ef.in (md := mX6_copy) (L := [some (.ref 65), some (.int 5), some (.int 2), some (.int a3), some (.int a4), some (.int a5), none]) rfl (Nat.le_of_ble_eq_true rfl) rfl ?_
    refine E_aload_n rfl rfl ?_
    refine E_iload_n rfl rfl ?_
    refine E_callV (v := some (.int 1)) (As := [.ref 65, .int 5]) (r0 := []) (cs2 := (w0.set 48 (.inl [0, 0, 0, 1, 0, 0, 0, 0]))) rfl rfl rfl (Nat.le_of_ble_eq_true rfl) rfl rfl c55_X6_isShelf (by decide) rfl ?_
    refine E_if (t := 16) (b := false) rfl rfl (by decide) ?_
    refine E_aload_n rfl rfl ?_
    refine E_iload_n rfl rfl ?_
    refine E_callV (v := some (.int 1)) (As := [.ref 65, .int 2]) (r0 := []) (cs2 := (w0.set 48 (.inl [0, 0, 0, 1, 0, 0, 0, 0]))) rfl rfl rfl (Nat.le_of_ble_eq_true rfl) rfl rfl c43_X6_isShelf (by decide) rfl ?_
    refine E_if (t := 22) (b := true) rfl rfl (by decide) ?_
    refine E_aload_n rfl rfl ?_
    refine E_getfield (v := .ref 76) rfl rfl rfl (by decide) rfl ?_
    refine E_iload_n rfl rfl ?_
    refine E_iaload (x := 0) (j := 5) rfl rfl (by decide) (by decide) rfl ?_
    refine E_iconst (x := 2) rfl (by decide) ?_
    refine E_ic (t := 77) (b := false) rfl rfl (by decide) ?_
    refine E_aload_n rfl rfl ?_
    refine E_getfield (v := .ref 76) rfl rfl rfl (by decide) rfl ?_
    refine E_iload_n rfl rfl ?_
    refine E_iaload (x := 0) (j := 2) rfl rfl (by decide) (by decide) rfl ?_
    refine E_iconst (x := 2) rfl (by decide) ?_
    refine E_ic (t := 77) (b := false) rfl rfl (by decide) ?_
    refine E_aload_n rfl rfl ?_
    refine E_getfield (v := .ref 76) rfl rfl rfl (by decide) rfl ?_
    refine E_iload_n rfl rfl ?_
    refine E_iaload (x := 0) (j := 5) rfl rfl (by decide) (by decide) rfl ?_
    refine E_iconst (x := 1) rfl (by decide) ?_
    refine E_ic (t := 84) (b := true) rfl rfl (by decide) ?_
    refine E_aload_n rfl rfl ?_
    refine E_getfield (v := .ref 76) rfl rfl rfl (by decide) rfl ?_
    refine E_iload_n rfl rfl ?_
    refine E_iaload (x := 0) (j := 5) rfl rfl (by decide) (by decide) rfl ?_
    refine E_if (t := 102) (b := true) rfl rfl (by decide) ?_
    refine E_aload_n rfl rfl ?_
    refine E_bipush (x := (-3)) rfl (by decide) ?_
    refine E_callV (v := some (.int (-3))) (As := [.ref 65, .int (-3)]) (r0 := []) (cs2 := ((w0.set 48 (.inl [0, 0, 0, 1, 0, 0, 0, 0])).set 66 (.inl [0, 0, 0, 1, 0, 0, 0, 0]))) rfl rfl rfl (Nat.le_of_ble_eq_true rfl) rfl rfl c35_X6_no (by decide) (by simp only [List.length_set]) ?_
    exact E_iret rfl rfl, (by simp only [List.length_set]; rfl), (by simp only [List.length_set]; rfl), ((ab_szs rfl).trans ((ab_szs rfl).trans rfl)), fun _ => rfl⟩
theorem f_copy_46 (a3 a4 a5 : Int32) : p1_P 3 78 2 137 [.ref 0, .int 5, .int 3, .int a3, .int a4, .int a5] [.ref 65, .int 5, .int 3, .int a3, .int a4, .int a5] :=
  ⟨(-3), (w0.set 48 (.inl [0, 0, 0, 1, 0, 0, 0, 0])), ((w0.set 48 (.inl [0, 0, 0, 1, 0, 0, 0, 0])).set 66 (.inl [0, 0, 0, 1, 0, 0, 0, 0])), by
    refine Ef.in (md := mX5_copy) (L := [some (.ref 0), some (.int 5), some (.int 3), some (.int a3), some (.int a4), some (.int a5), none, none]) rfl (Nat.le_of_ble_eq_true rfl) rfl ?_
    refine E_iload_n rfl rfl ?_
    refine E_callS (v := some (.int 1)) (As := [.int 5]) (r0 := []) (cs2 := w0) rfl rfl rfl (Nat.le_of_ble_eq_true rfl) rfl c20_X5_isShelf (by decide) rfl ?_
    refine E_if (t := 14) (b := false) rfl rfl (by decide) ?_
    refine E_iload_n rfl rfl ?_
    refine E_callS (v := some (.int 1)) (As := [.int 3]) (r0 := []) (cs2 := w0) rfl rfl rfl (Nat.le_of_ble_eq_true rfl) rfl c16_X5_isShelf (by decide) rfl ?_
    refine E_if (t := 20) (b := true) rfl rfl (by decide) ?_
    refine E_aload_n rfl rfl ?_
    refine E_getfield (v := .ref 31) rfl rfl rfl (by decide) rfl ?_
    refine E_iload_n rfl rfl ?_
    refine E_aaload (b := 59) (j := 5) rfl rfl (by decide) (by decide) rfl ?_
    refine E_astore (L2 := [some (.ref 0), some (.int 5), some (.int 3), some (.int a3), some (.int a4), some (.int a5), some (.ref 59), none]) rfl rfl ?_
    refine E_aload_n rfl rfl ?_
    refine E_getfield (v := .ref 31) rfl rfl rfl (by decide) rfl ?_
    refine E_iload_n rfl rfl ?_
    refine E_aaload (b := 55) (j := 3) rfl rfl (by decide) (by decide) rfl ?_
    refine E_astore (L2 := [some (.ref 0), some (.int 5), some (.int 3), some (.int a3), some (.int a4), some (.int a5), some (.ref 59), some (.ref 55)]) rfl rfl ?_
    refine E_aload rfl rfl ?_
    refine E_callV (v := some (.int 0)) (As := [.ref 59]) (r0 := []) (cs2 := w0) rfl rfl rfl (Nat.le_of_ble_eq_true rfl) rfl rfl c53_X3_isOtherThanRow (by decide) rfl ?_
    refine E_if (t := 62) (b := false) rfl rfl (by decide) ?_
    refine E_aload rfl rfl ?_
    refine E_callV (v := some (.int 0)) (As := [.ref 55]) (r0 := []) (cs2 := w0) rfl rfl rfl (Nat.le_of_ble_eq_true rfl) rfl rfl c45_X3_isOtherThanRow (by decide) rfl ?_
    refine E_if (t := 62) (b := false) rfl rfl (by decide) ?_
    refine E_aload rfl rfl ?_
    refine E_aload rfl rfl ?_
    refine E_callV (v := some (.int 0)) (As := [.ref 59, .ref 55]) (r0 := []) (cs2 := w0) rfl rfl rfl (Nat.le_of_ble_eq_true rfl) rfl rfl c107_X3_isOfOtherSort (by decide) rfl ?_
    refine E_if (t := 68) (b := true) rfl rfl (by decide) ?_
    refine E_aload rfl rfl ?_
    refine E_callV (v := some (.int 1)) (As := [.ref 59]) (r0 := []) (cs2 := w0) rfl rfl rfl (Nat.le_of_ble_eq_true rfl) rfl rfl c54_X3_isEmpty (by decide) rfl ?_
    refine E_if (t := 84) (b := true) rfl rfl (by decide) ?_
    refine E_aload_n rfl rfl ?_
    refine E_iconst (x := 3) rfl (by decide) ?_
    refine E_callV (v := some (.int (-3))) (As := [.ref 0, .int 3]) (r0 := []) (cs2 := (w0.set 48 (.inl [0, 0, 0, 1, 0, 0, 0, 0]))) rfl rfl rfl (Nat.le_of_ble_eq_true rfl) rfl rfl c32_X5_refuse (by decide) (by simp only [List.length_set]) ?_
    exact E_iret rfl rfl, by
    refine Ef.in (md := mX6_copy) (L := [some (.ref 65), some (.int 5), some (.int 3), some (.int a3), some (.int a4), some (.int a5), none]) rfl (Nat.le_of_ble_eq_true rfl) rfl ?_
    refine E_aload_n rfl rfl ?_
    refine E_iload_n rfl rfl ?_
    refine E_callV (v := some (.int 1)) (As := [.ref 65, .int 5]) (r0 := []) (cs2 := (w0.set 48 (.inl [0, 0, 0, 1, 0, 0, 0, 0]))) rfl rfl rfl (Nat.le_of_ble_eq_true rfl) rfl rfl c55_X6_isShelf (by decide) rfl ?_
    refine E_if (t := 16) (b := false) rfl rfl (by decide) ?_
    refine E_aload_n rfl rfl ?_
    refine E_iload_n rfl rfl ?_
    refine E_callV (v := some (.int 1)) (As := [.ref 65, .int 3]) (r0 := []) (cs2 := (w0.set 48 (.inl [0, 0, 0, 1, 0, 0, 0, 0]))) rfl rfl rfl (Nat.le_of_ble_eq_true rfl) rfl rfl c47_X6_isShelf (by decide) rfl ?_
    refine E_if (t := 22) (b := true) rfl rfl (by decide) ?_
    refine E_aload_n rfl rfl ?_
    refine E_getfield (v := .ref 76) rfl rfl rfl (by decide) rfl ?_
    refine E_iload_n rfl rfl ?_
    refine E_iaload (x := 0) (j := 5) rfl rfl (by decide) (by decide) rfl ?_
    refine E_iconst (x := 2) rfl (by decide) ?_
    refine E_ic (t := 77) (b := false) rfl rfl (by decide) ?_
    refine E_aload_n rfl rfl ?_
    refine E_getfield (v := .ref 76) rfl rfl rfl (by decide) rfl ?_
    refine E_iload_n rfl rfl ?_
    refine E_iaload (x := 0) (j := 3) rfl rfl (by decide) (by decide) rfl ?_
    refine E_iconst (x := 2) rfl (by decide) ?_
    refine E_ic (t := 77) (b := false) rfl rfl (by decide) ?_
    refine E_aload_n rfl rfl ?_
    refine E_getfield (v := .ref 76) rfl rfl rfl (by decide) rfl ?_
    refine E_iload_n rfl rfl ?_
    refine E_iaload (x := 0) (j := 5) rfl rfl (by decide) (by decide) rfl ?_
    refine E_iconst (x := 1) rfl (by decide) ?_
    refine E_ic (t := 84) (b := true) rfl rfl (by decide) ?_
    refine E_aload_n rfl rfl ?_
    refine E_getfield (v := .ref 76) rfl rfl rfl (by decide) rfl ?_
    refine E_iload_n rfl rfl ?_
    refine E_iaload (x := 0) (j := 5) rfl rfl (by decide) (by decide) rfl ?_
    refine E_if (t := 102) (b := true) rfl rfl (by decide) ?_
    refine E_aload_n rfl rfl ?_
    refine E_bipush (x := (-3)) rfl (by decide) ?_
    refine E_callV (v := some (.int (-3))) (As := [.ref 65, .int (-3)]) (r0 := []) (cs2 := ((w0.set 48 (.inl [0, 0, 0, 1, 0, 0, 0, 0])).set 66 (.inl [0, 0, 0, 1, 0, 0, 0, 0]))) rfl rfl rfl (Nat.le_of_ble_eq_true rfl) rfl rfl c35_X6_no (by decide) (by simp only [List.length_set]) ?_
    exact E_iret rfl rfl, (by simp only [List.length_set]; rfl), (by simp only [List.length_set]; rfl), ((ab_szs rfl).trans ((ab_szs rfl).trans rfl)), fun _ => rfl⟩
theorem f_copy_47 (a3 a4 a5 : Int32) : p1_P 3 78 2 137 [.ref 0, .int 5, .int 4, .int a3, .int a4, .int a5] [.ref 65, .int 5, .int 4, .int a3, .int a4, .int a5] :=
  ⟨(-3), (w0.set 48 (.inl [0, 0, 0, 1, 0, 0, 0, 0])), ((w0.set 48 (.inl [0, 0, 0, 1, 0, 0, 0, 0])).set 66 (.inl [0, 0, 0, 1, 0, 0, 0, 0])), by
    refine Ef.in (md := mX5_copy) (L := [some (.ref 0), some (.int 5), some (.int 4), some (.int a3), some (.int a4), some (.int a5), none, none]) rfl (Nat.le_of_ble_eq_true rfl) rfl ?_
    refine E_iload_n rfl rfl ?_
    refine E_callS (v := some (.int 1)) (As := [.int 5]) (r0 := []) (cs2 := w0) rfl rfl rfl (Nat.le_of_ble_eq_true rfl) rfl c20_X5_isShelf (by decide) rfl ?_
    refine E_if (t := 14) (b := false) rfl rfl (by decide) ?_
    refine E_iload_n rfl rfl ?_
    refine E_callS (v := some (.int 1)) (As := [.int 4]) (r0 := []) (cs2 := w0) rfl rfl rfl (Nat.le_of_ble_eq_true rfl) rfl c18_X5_isShelf (by decide) rfl ?_
    refine E_if (t := 20) (b := true) rfl rfl (by decide) ?_
    refine E_aload_n rfl rfl ?_
    refine E_getfield (v := .ref 31) rfl rfl rfl (by decide) rfl ?_
    refine E_iload_n rfl rfl ?_
    refine E_aaload (b := 59) (j := 5) rfl rfl (by decide) (by decide) rfl ?_
    refine E_astore (L2 := [some (.ref 0), some (.int 5), some (.int 4), some (.int a3), some (.int a4), some (.int a5), some (.ref 59), none]) rfl rfl ?_
    refine E_aload_n rfl rfl ?_
    refine E_getfield (v := .ref 31) rfl rfl rfl (by decide) rfl ?_
    refine E_iload_n rfl rfl ?_
    refine E_aaload (b := 57) (j := 4) rfl rfl (by decide) (by decide) rfl ?_
    refine E_astore (L2 := [some (.ref 0), some (.int 5), some (.int 4), some (.int a3), some (.int a4), some (.int a5), some (.ref 59), some (.ref 57)]) rfl rfl ?_
    refine E_aload rfl rfl ?_
    refine E_callV (v := some (.int 0)) (As := [.ref 59]) (r0 := []) (cs2 := w0) rfl rfl rfl (Nat.le_of_ble_eq_true rfl) rfl rfl c53_X3_isOtherThanRow (by decide) rfl ?_
    refine E_if (t := 62) (b := false) rfl rfl (by decide) ?_
    refine E_aload rfl rfl ?_
    refine E_callV (v := some (.int 0)) (As := [.ref 57]) (r0 := []) (cs2 := w0) rfl rfl rfl (Nat.le_of_ble_eq_true rfl) rfl rfl c49_X3_isOtherThanRow (by decide) rfl ?_
    refine E_if (t := 62) (b := false) rfl rfl (by decide) ?_
    refine E_aload rfl rfl ?_
    refine E_aload rfl rfl ?_
    refine E_callV (v := some (.int 0)) (As := [.ref 59, .ref 57]) (r0 := []) (cs2 := w0) rfl rfl rfl (Nat.le_of_ble_eq_true rfl) rfl rfl c108_X3_isOfOtherSort (by decide) rfl ?_
    refine E_if (t := 68) (b := true) rfl rfl (by decide) ?_
    refine E_aload rfl rfl ?_
    refine E_callV (v := some (.int 1)) (As := [.ref 59]) (r0 := []) (cs2 := w0) rfl rfl rfl (Nat.le_of_ble_eq_true rfl) rfl rfl c54_X3_isEmpty (by decide) rfl ?_
    refine E_if (t := 84) (b := true) rfl rfl (by decide) ?_
    refine E_aload_n rfl rfl ?_
    refine E_iconst (x := 3) rfl (by decide) ?_
    refine E_callV (v := some (.int (-3))) (As := [.ref 0, .int 3]) (r0 := []) (cs2 := (w0.set 48 (.inl [0, 0, 0, 1, 0, 0, 0, 0]))) rfl rfl rfl (Nat.le_of_ble_eq_true rfl) rfl rfl c32_X5_refuse (by decide) (by simp only [List.length_set]) ?_
    exact E_iret rfl rfl, by
    refine Ef.in (md := mX6_copy) (L := [some (.ref 65), some (.int 5), some (.int 4), some (.int a3), some (.int a4), some (.int a5), none]) rfl (Nat.le_of_ble_eq_true rfl) rfl ?_
    refine E_aload_n rfl rfl ?_
    refine E_iload_n rfl rfl ?_
    refine E_callV (v := some (.int 1)) (As := [.ref 65, .int 5]) (r0 := []) (cs2 := (w0.set 48 (.inl [0, 0, 0, 1, 0, 0, 0, 0]))) rfl rfl rfl (Nat.le_of_ble_eq_true rfl) rfl rfl c55_X6_isShelf (by decide) rfl ?_
    refine E_if (t := 16) (b := false) rfl rfl (by decide) ?_
    refine E_aload_n rfl rfl ?_
    refine E_iload_n rfl rfl ?_
    refine E_callV (v := some (.int 1)) (As := [.ref 65, .int 4]) (r0 := []) (cs2 := (w0.set 48 (.inl [0, 0, 0, 1, 0, 0, 0, 0]))) rfl rfl rfl (Nat.le_of_ble_eq_true rfl) rfl rfl c51_X6_isShelf (by decide) rfl ?_
    refine E_if (t := 22) (b := true) rfl rfl (by decide) ?_
    refine E_aload_n rfl rfl ?_
    refine E_getfield (v := .ref 76) rfl rfl rfl (by decide) rfl ?_
    refine E_iload_n rfl rfl ?_
    refine E_iaload (x := 0) (j := 5) rfl rfl (by decide) (by decide) rfl ?_
    refine E_iconst (x := 2) rfl (by decide) ?_
    refine E_ic (t := 77) (b := false) rfl rfl (by decide) ?_
    refine E_aload_n rfl rfl ?_
    refine E_getfield (v := .ref 76) rfl rfl rfl (by decide) rfl ?_
    refine E_iload_n rfl rfl ?_
    refine E_iaload (x := 0) (j := 4) rfl rfl (by decide) (by decide) rfl ?_
    refine E_iconst (x := 2) rfl (by decide) ?_
    refine E_ic (t := 77) (b := false) rfl rfl (by decide) ?_
    refine E_aload_n rfl rfl ?_
    refine E_getfield (v := .ref 76) rfl rfl rfl (by decide) rfl ?_
    refine E_iload_n rfl rfl ?_
    refine E_iaload (x := 0) (j := 5) rfl rfl (by decide) (by decide) rfl ?_
    refine E_iconst (x := 1) rfl (by decide) ?_
    refine E_ic (t := 84) (b := true) rfl rfl (by decide) ?_
    refine E_aload_n rfl rfl ?_
    refine E_getfield (v := .ref 76) rfl rfl rfl (by decide) rfl ?_
    refine E_iload_n rfl rfl ?_
    refine E_iaload (x := 0) (j := 5) rfl rfl (by decide) (by decide) rfl ?_
    refine E_if (t := 102) (b := true) rfl rfl (by decide) ?_
    refine E_aload_n rfl rfl ?_
    refine E_bipush (x := (-3)) rfl (by decide) ?_
    refine E_callV (v := some (.int (-3))) (As := [.ref 65, .int (-3)]) (r0 := []) (cs2 := ((w0.set 48 (.inl [0, 0, 0, 1, 0, 0, 0, 0])).set 66 (.inl [0, 0, 0, 1, 0, 0, 0, 0]))) rfl rfl rfl (Nat.le_of_ble_eq_true rfl) rfl rfl c35_X6_no (by decide) (by simp only [List.length_set]) ?_
    exact E_iret rfl rfl, (by simp only [List.length_set]; rfl), (by simp only [List.length_set]; rfl), ((ab_szs rfl).trans ((ab_szs rfl).trans rfl)), fun _ => rfl⟩
theorem f_copy_48 (a3 a4 a5 : Int32) : p1_P 3 78 2 137 [.ref 0, .int 5, .int 5, .int a3, .int a4, .int a5] [.ref 65, .int 5, .int 5, .int a3, .int a4, .int a5] :=
  ⟨(-3), (w0.set 48 (.inl [0, 0, 0, 1, 0, 0, 0, 0])), ((w0.set 48 (.inl [0, 0, 0, 1, 0, 0, 0, 0])).set 66 (.inl [0, 0, 0, 1, 0, 0, 0, 0])), by
    refine Ef.in (md := mX5_copy) (L := [some (.ref 0), some (.int 5), some (.int 5), some (.int a3), some (.int a4), some (.int a5), none, none]) rfl (Nat.le_of_ble_eq_true rfl) rfl ?_
    refine E_iload_n rfl rfl ?_
    refine E_callS (v := some (.int 1)) (As := [.int 5]) (r0 := []) (cs2 := w0) rfl rfl rfl (Nat.le_of_ble_eq_true rfl) rfl c20_X5_isShelf (by decide) rfl ?_
    refine E_if (t := 14) (b := false) rfl rfl (by decide) ?_
    refine E_iload_n rfl rfl ?_
    refine E_callS (v := some (.int 1)) (As := [.int 5]) (r0 := []) (cs2 := w0) rfl rfl rfl (Nat.le_of_ble_eq_true rfl) rfl c20_X5_isShelf (by decide) rfl ?_
    refine E_if (t := 20) (b := true) rfl rfl (by decide) ?_
    refine E_aload_n rfl rfl ?_
    refine E_getfield (v := .ref 31) rfl rfl rfl (by decide) rfl ?_
    refine E_iload_n rfl rfl ?_
    refine E_aaload (b := 59) (j := 5) rfl rfl (by decide) (by decide) rfl ?_
    refine E_astore (L2 := [some (.ref 0), some (.int 5), some (.int 5), some (.int a3), some (.int a4), some (.int a5), some (.ref 59), none]) rfl rfl ?_
    refine E_aload_n rfl rfl ?_
    refine E_getfield (v := .ref 31) rfl rfl rfl (by decide) rfl ?_
    refine E_iload_n rfl rfl ?_
    refine E_aaload (b := 59) (j := 5) rfl rfl (by decide) (by decide) rfl ?_
    refine E_astore (L2 := [some (.ref 0), some (.int 5), some (.int 5), some (.int a3), some (.int a4), some (.int a5), some (.ref 59), some (.ref 59)]) rfl rfl ?_
    refine E_aload rfl rfl ?_
    refine E_callV (v := some (.int 0)) (As := [.ref 59]) (r0 := []) (cs2 := w0) rfl rfl rfl (Nat.le_of_ble_eq_true rfl) rfl rfl c53_X3_isOtherThanRow (by decide) rfl ?_
    refine E_if (t := 62) (b := false) rfl rfl (by decide) ?_
    refine E_aload rfl rfl ?_
    refine E_callV (v := some (.int 0)) (As := [.ref 59]) (r0 := []) (cs2 := w0) rfl rfl rfl (Nat.le_of_ble_eq_true rfl) rfl rfl c53_X3_isOtherThanRow (by decide) rfl ?_
    refine E_if (t := 62) (b := false) rfl rfl (by decide) ?_
    refine E_aload rfl rfl ?_
    refine E_aload rfl rfl ?_
    refine E_callV (v := some (.int 0)) (As := [.ref 59, .ref 59]) (r0 := []) (cs2 := w0) rfl rfl rfl (Nat.le_of_ble_eq_true rfl) rfl rfl c109_X3_isOfOtherSort (by decide) rfl ?_
    refine E_if (t := 68) (b := true) rfl rfl (by decide) ?_
    refine E_aload rfl rfl ?_
    refine E_callV (v := some (.int 1)) (As := [.ref 59]) (r0 := []) (cs2 := w0) rfl rfl rfl (Nat.le_of_ble_eq_true rfl) rfl rfl c54_X3_isEmpty (by decide) rfl ?_
    refine E_if (t := 84) (b := true) rfl rfl (by decide) ?_
    refine E_aload_n rfl rfl ?_
    refine E_iconst (x := 3) rfl (by decide) ?_
    refine E_callV (v := some (.int (-3))) (As := [.ref 0, .int 3]) (r0 := []) (cs2 := (w0.set 48 (.inl [0, 0, 0, 1, 0, 0, 0, 0]))) rfl rfl rfl (Nat.le_of_ble_eq_true rfl) rfl rfl c32_X5_refuse (by decide) (by simp only [List.length_set]) ?_
    exact E_iret rfl rfl, by
    refine Ef.in (md := mX6_copy) (L := [some (.ref 65), some (.int 5), some (.int 5), some (.int a3), some (.int a4), some (.int a5), none]) rfl (Nat.le_of_ble_eq_true rfl) rfl ?_
    refine E_aload_n rfl rfl ?_
    refine E_iload_n rfl rfl ?_
    refine E_callV (v := some (.int 1)) (As := [.ref 65, .int 5]) (r0 := []) (cs2 := (w0.set 48 (.inl [0, 0, 0, 1, 0, 0, 0, 0]))) rfl rfl rfl (Nat.le_of_ble_eq_true rfl) rfl rfl c55_X6_isShelf (by decide) rfl ?_
    refine E_if (t := 16) (b := false) rfl rfl (by decide) ?_
    refine E_aload_n rfl rfl ?_
    refine E_iload_n rfl rfl ?_
    refine E_callV (v := some (.int 1)) (As := [.ref 65, .int 5]) (r0 := []) (cs2 := (w0.set 48 (.inl [0, 0, 0, 1, 0, 0, 0, 0]))) rfl rfl rfl (Nat.le_of_ble_eq_true rfl) rfl rfl c55_X6_isShelf (by decide) rfl ?_
    refine E_if (t := 22) (b := true) rfl rfl (by decide) ?_
    refine E_aload_n rfl rfl ?_
    refine E_getfield (v := .ref 76) rfl rfl rfl (by decide) rfl ?_
    refine E_iload_n rfl rfl ?_
    refine E_iaload (x := 0) (j := 5) rfl rfl (by decide) (by decide) rfl ?_
    refine E_iconst (x := 2) rfl (by decide) ?_
    refine E_ic (t := 77) (b := false) rfl rfl (by decide) ?_
    refine E_aload_n rfl rfl ?_
    refine E_getfield (v := .ref 76) rfl rfl rfl (by decide) rfl ?_
    refine E_iload_n rfl rfl ?_
    refine E_iaload (x := 0) (j := 5) rfl rfl (by decide) (by decide) rfl ?_
    refine E_iconst (x := 2) rfl (by decide) ?_
    refine E_ic (t := 77) (b := false) rfl rfl (by decide) ?_
    refine E_aload_n rfl rfl ?_
    refine E_getfield (v := .ref 76) rfl rfl rfl (by decide) rfl ?_
    refine E_iload_n rfl rfl ?_
    refine E_iaload (x := 0) (j := 5) rfl rfl (by decide) (by decide) rfl ?_
    refine E_iconst (x := 1) rfl (by decide) ?_
    refine E_ic (t := 84) (b := true) rfl rfl (by decide) ?_
    refine E_aload_n rfl rfl ?_
    refine E_getfield (v := .ref 76) rfl rfl rfl (by decide) rfl ?_
    refine E_iload_n rfl rfl ?_
    refine E_iaload (x := 0) (j := 5) rfl rfl (by decide) (by decide) rfl ?_
    refine E_if (t := 102) (b := true) rfl rfl (by decide) ?_
    refine E_aload_n rfl rfl ?_
    refine E_bipush (x := (-3)) rfl (by decide) ?_
    refine E_callV (v := some (.int (-3))) (As := [.ref 65, .int (-3)]) (r0 := []) (cs2 := ((w0.set 48 (.inl [0, 0, 0, 1, 0, 0, 0, 0])).set 66 (.inl [0, 0, 0, 1, 0, 0, 0, 0]))) rfl rfl rfl (Nat.le_of_ble_eq_true rfl) rfl rfl c35_X6_no (by decide) (by simp only [List.length_set]) ?_
    exact E_iret rfl rfl, (by simp only [List.length_set]; rfl), (by simp only [List.length_set]; rfl), ((ab_szs rfl).trans ((ab_szs rfl).trans rfl)), fun _ => rfl⟩
theorem f_copy_49 (a3 a4 a5 : Int32) : p1_P 3 78 2 137 [.ref 0, .int 5, .int 6, .int a3, .int a4, .int a5] [.ref 65, .int 5, .int 6, .int a3, .int a4, .int a5] :=
  ⟨(-3), (w0.set 48 (.inl [0, 0, 0, 1, 0, 0, 0, 0])), ((w0.set 48 (.inl [0, 0, 0, 1, 0, 0, 0, 0])).set 66 (.inl [0, 0, 0, 1, 0, 0, 0, 0])), by
    refine Ef.in (md := mX5_copy) (L := [some (.ref 0), some (.int 5), some (.int 6), some (.int a3), some (.int a4), some (.int a5), none, none]) rfl (Nat.le_of_ble_eq_true rfl) rfl ?_
    refine E_iload_n rfl rfl ?_
    refine E_callS (v := some (.int 1)) (As := [.int 5]) (r0 := []) (cs2 := w0) rfl rfl rfl (Nat.le_of_ble_eq_true rfl) rfl c20_X5_isShelf (by decide) rfl ?_
    refine E_if (t := 14) (b := false) rfl rfl (by decide) ?_
    refine E_iload_n rfl rfl ?_
    refine E_callS (v := some (.int 1)) (As := [.int 6]) (r0 := []) (cs2 := w0) rfl rfl rfl (Nat.le_of_ble_eq_true rfl) rfl c22_X5_isShelf (by decide) rfl ?_
    refine E_if (t := 20) (b := true) rfl rfl (by decide) ?_
    refine E_aload_n rfl rfl ?_
    refine E_getfield (v := .ref 31) rfl rfl rfl (by decide) rfl ?_
    refine E_iload_n rfl rfl ?_
    refine E_aaload (b := 59) (j := 5) rfl rfl (by decide) (by decide) rfl ?_
    refine E_astore (L2 := [some (.ref 0), some (.int 5), some (.int 6), some (.int a3), some (.int a4), some (.int a5), some (.ref 59), none]) rfl rfl ?_
    refine E_aload_n rfl rfl ?_
    refine E_getfield (v := .ref 31) rfl rfl rfl (by decide) rfl ?_
    refine E_iload_n rfl rfl ?_
    refine E_aaload (b := 61) (j := 6) rfl rfl (by decide) (by decide) rfl ?_
    refine E_astore (L2 := [some (.ref 0), some (.int 5), some (.int 6), some (.int a3), some (.int a4), some (.int a5), some (.ref 59), some (.ref 61)]) rfl rfl ?_
    refine E_aload rfl rfl ?_
    refine E_callV (v := some (.int 0)) (As := [.ref 59]) (r0 := []) (cs2 := w0) rfl rfl rfl (Nat.le_of_ble_eq_true rfl) rfl rfl c53_X3_isOtherThanRow (by decide) rfl ?_
    refine E_if (t := 62) (b := false) rfl rfl (by decide) ?_
    refine E_aload rfl rfl ?_
    refine E_callV (v := some (.int 0)) (As := [.ref 61]) (r0 := []) (cs2 := w0) rfl rfl rfl (Nat.le_of_ble_eq_true rfl) rfl rfl c57_X3_isOtherThanRow (by decide) rfl ?_
    refine E_if (t := 62) (b := false) rfl rfl (by decide) ?_
    refine E_aload rfl rfl ?_
    refine E_aload rfl rfl ?_
    refine E_callV (v := some (.int 0)) (As := [.ref 59, .ref 61]) (r0 := []) (cs2 := w0) rfl rfl rfl (Nat.le_of_ble_eq_true rfl) rfl rfl c110_X3_isOfOtherSort (by decide) rfl ?_
    refine E_if (t := 68) (b := true) rfl rfl (by decide) ?_
    refine E_aload rfl rfl ?_
    refine E_callV (v := some (.int 1)) (As := [.ref 59]) (r0 := []) (cs2 := w0) rfl rfl rfl (Nat.le_of_ble_eq_true rfl) rfl rfl c54_X3_isEmpty (by decide) rfl ?_
    refine E_if (t := 84) (b := true) rfl rfl (by decide) ?_
    refine E_aload_n rfl rfl ?_
    refine E_iconst (x := 3) rfl (by decide) ?_
    refine E_callV (v := some (.int (-3))) (As := [.ref 0, .int 3]) (r0 := []) (cs2 := (w0.set 48 (.inl [0, 0, 0, 1, 0, 0, 0, 0]))) rfl rfl rfl (Nat.le_of_ble_eq_true rfl) rfl rfl c32_X5_refuse (by decide) (by simp only [List.length_set]) ?_
    exact E_iret rfl rfl, by
    refine Ef.in (md := mX6_copy) (L := [some (.ref 65), some (.int 5), some (.int 6), some (.int a3), some (.int a4), some (.int a5), none]) rfl (Nat.le_of_ble_eq_true rfl) rfl ?_
    refine E_aload_n rfl rfl ?_
    refine E_iload_n rfl rfl ?_
    refine E_callV (v := some (.int 1)) (As := [.ref 65, .int 5]) (r0 := []) (cs2 := (w0.set 48 (.inl [0, 0, 0, 1, 0, 0, 0, 0]))) rfl rfl rfl (Nat.le_of_ble_eq_true rfl) rfl rfl c55_X6_isShelf (by decide) rfl ?_
    refine E_if (t := 16) (b := false) rfl rfl (by decide) ?_
    refine E_aload_n rfl rfl ?_
    refine E_iload_n rfl rfl ?_
    refine E_callV (v := some (.int 1)) (As := [.ref 65, .int 6]) (r0 := []) (cs2 := (w0.set 48 (.inl [0, 0, 0, 1, 0, 0, 0, 0]))) rfl rfl rfl (Nat.le_of_ble_eq_true rfl) rfl rfl c59_X6_isShelf (by decide) rfl ?_
    refine E_if (t := 22) (b := true) rfl rfl (by decide) ?_
    refine E_aload_n rfl rfl ?_
    refine E_getfield (v := .ref 76) rfl rfl rfl (by decide) rfl ?_
    refine E_iload_n rfl rfl ?_
    refine E_iaload (x := 0) (j := 5) rfl rfl (by decide) (by decide) rfl ?_
    refine E_iconst (x := 2) rfl (by decide) ?_
    refine E_ic (t := 77) (b := false) rfl rfl (by decide) ?_
    refine E_aload_n rfl rfl ?_
    refine E_getfield (v := .ref 76) rfl rfl rfl (by decide) rfl ?_
    refine E_iload_n rfl rfl ?_
    refine E_iaload (x := 0) (j := 6) rfl rfl (by decide) (by decide) rfl ?_
    refine E_iconst (x := 2) rfl (by decide) ?_
    refine E_ic (t := 77) (b := false) rfl rfl (by decide) ?_
    refine E_aload_n rfl rfl ?_
    refine E_getfield (v := .ref 76) rfl rfl rfl (by decide) rfl ?_
    refine E_iload_n rfl rfl ?_
    refine E_iaload (x := 0) (j := 5) rfl rfl (by decide) (by decide) rfl ?_
    refine E_iconst (x := 1) rfl (by decide) ?_
    refine E_ic (t := 84) (b := true) rfl rfl (by decide) ?_
    refine E_aload_n rfl rfl ?_
    refine E_getfield (v := .ref 76) rfl rfl rfl (by decide) rfl ?_
    refine E_iload_n rfl rfl ?_
    refine E_iaload (x := 0) (j := 5) rfl rfl (by decide) (by decide) rfl ?_
    refine E_if (t := 102) (b := true) rfl rfl (by decide) ?_
    refine E_aload_n rfl rfl ?_
    refine E_bipush (x := (-3)) rfl (by decide) ?_
    refine E_callV (v := some (.int (-3))) (As := [.ref 65, .int (-3)]) (r0 := []) (cs2 := ((w0.set 48 (.inl [0, 0, 0, 1, 0, 0, 0, 0])).set 66 (.inl [0, 0, 0, 1, 0, 0, 0, 0]))) rfl rfl rfl (Nat.le_of_ble_eq_true rfl) rfl rfl c35_X6_no (by decide) (by simp only [List.length_set]) ?_
    exact E_iret rfl rfl, (by simp only [List.length_set]; rfl), (by simp only [List.length_set]; rfl), ((ab_szs rfl).trans ((ab_szs rfl).trans rfl)), fun _ => rfl⟩
theorem f_copy_50 (a3 a4 a5 : Int32) : p1_P 3 78 2 137 [.ref 0, .int 5, .int 7, .int a3, .int a4, .int a5] [.ref 65, .int 5, .int 7, .int a3, .int a4, .int a5] :=
  ⟨(-3), (w0.set 48 (.inl [0, 0, 0, 1, 0, 0, 0, 0])), ((w0.set 48 (.inl [0, 0, 0, 1, 0, 0, 0, 0])).set 66 (.inl [0, 0, 0, 1, 0, 0, 0, 0])), by
    refine Ef.in (md := mX5_copy) (L := [some (.ref 0), some (.int 5), some (.int 7), some (.int a3), some (.int a4), some (.int a5), none, none]) rfl (Nat.le_of_ble_eq_true rfl) rfl ?_
    refine E_iload_n rfl rfl ?_
    refine E_callS (v := some (.int 1)) (As := [.int 5]) (r0 := []) (cs2 := w0) rfl rfl rfl (Nat.le_of_ble_eq_true rfl) rfl c20_X5_isShelf (by decide) rfl ?_
    refine E_if (t := 14) (b := false) rfl rfl (by decide) ?_
    refine E_iload_n rfl rfl ?_
    refine E_callS (v := some (.int 1)) (As := [.int 7]) (r0 := []) (cs2 := w0) rfl rfl rfl (Nat.le_of_ble_eq_true rfl) rfl c24_X5_isShelf (by decide) rfl ?_
    refine E_if (t := 20) (b := true) rfl rfl (by decide) ?_
    refine E_aload_n rfl rfl ?_
    refine E_getfield (v := .ref 31) rfl rfl rfl (by decide) rfl ?_
    refine E_iload_n rfl rfl ?_
    refine E_aaload (b := 59) (j := 5) rfl rfl (by decide) (by decide) rfl ?_
    refine E_astore (L2 := [some (.ref 0), some (.int 5), some (.int 7), some (.int a3), some (.int a4), some (.int a5), some (.ref 59), none]) rfl rfl ?_
    refine E_aload_n rfl rfl ?_
    refine E_getfield (v := .ref 31) rfl rfl rfl (by decide) rfl ?_
    refine E_iload_n rfl rfl ?_
    refine E_aaload (b := 63) (j := 7) rfl rfl (by decide) (by decide) rfl ?_
    refine E_astore (L2 := [some (.ref 0), some (.int 5), some (.int 7), some (.int a3), some (.int a4), some (.int a5), some (.ref 59), some (.ref 63)]) rfl rfl ?_
    refine E_aload rfl rfl ?_
    refine E_callV (v := some (.int 0)) (As := [.ref 59]) (r0 := []) (cs2 := w0) rfl rfl rfl (Nat.le_of_ble_eq_true rfl) rfl rfl c53_X3_isOtherThanRow (by decide) rfl ?_
    refine E_if (t := 62) (b := false) rfl rfl (by decide) ?_
    refine E_aload rfl rfl ?_
    refine E_callV (v := some (.int 0)) (As := [.ref 63]) (r0 := []) (cs2 := w0) rfl rfl rfl (Nat.le_of_ble_eq_true rfl) rfl rfl c61_X3_isOtherThanRow (by decide) rfl ?_
    refine E_if (t := 62) (b := false) rfl rfl (by decide) ?_
    refine E_aload rfl rfl ?_
    refine E_aload rfl rfl ?_
    refine E_callV (v := some (.int 0)) (As := [.ref 59, .ref 63]) (r0 := []) (cs2 := w0) rfl rfl rfl (Nat.le_of_ble_eq_true rfl) rfl rfl c111_X3_isOfOtherSort (by decide) rfl ?_
    refine E_if (t := 68) (b := true) rfl rfl (by decide) ?_
    refine E_aload rfl rfl ?_
    refine E_callV (v := some (.int 1)) (As := [.ref 59]) (r0 := []) (cs2 := w0) rfl rfl rfl (Nat.le_of_ble_eq_true rfl) rfl rfl c54_X3_isEmpty (by decide) rfl ?_
    refine E_if (t := 84) (b := true) rfl rfl (by decide) ?_
    refine E_aload_n rfl rfl ?_
    refine E_iconst (x := 3) rfl (by decide) ?_
    refine E_callV (v := some (.int (-3))) (As := [.ref 0, .int 3]) (r0 := []) (cs2 := (w0.set 48 (.inl [0, 0, 0, 1, 0, 0, 0, 0]))) rfl rfl rfl (Nat.le_of_ble_eq_true rfl) rfl rfl c32_X5_refuse (by decide) (by simp only [List.length_set]) ?_
    exact E_iret rfl rfl, by
    refine Ef.in (md := mX6_copy) (L := [some (.ref 65), some (.int 5), some (.int 7), some (.int a3), some (.int a4), some (.int a5), none]) rfl (Nat.le_of_ble_eq_true rfl) rfl ?_
    refine E_aload_n rfl rfl ?_
    refine E_iload_n rfl rfl ?_
    refine E_callV (v := some (.int 1)) (As := [.ref 65, .int 5]) (r0 := []) (cs2 := (w0.set 48 (.inl [0, 0, 0, 1, 0, 0, 0, 0]))) rfl rfl rfl (Nat.le_of_ble_eq_true rfl) rfl rfl c55_X6_isShelf (by decide) rfl ?_
    refine E_if (t := 16) (b := false) rfl rfl (by decide) ?_
    refine E_aload_n rfl rfl ?_
    refine E_iload_n rfl rfl ?_
    refine E_callV (v := some (.int 1)) (As := [.ref 65, .int 7]) (r0 := []) (cs2 := (w0.set 48 (.inl [0, 0, 0, 1, 0, 0, 0, 0]))) rfl rfl rfl (Nat.le_of_ble_eq_true rfl) rfl rfl c63_X6_isShelf (by decide) rfl ?_
    refine E_if (t := 22) (b := true) rfl rfl (by decide) ?_
    refine E_aload_n rfl rfl ?_
    refine E_getfield (v := .ref 76) rfl rfl rfl (by decide) rfl ?_
    refine E_iload_n rfl rfl ?_
    refine E_iaload (x := 0) (j := 5) rfl rfl (by decide) (by decide) rfl ?_
    refine E_iconst (x := 2) rfl (by decide) ?_
    refine E_ic (t := 77) (b := false) rfl rfl (by decide) ?_
    refine E_aload_n rfl rfl ?_
    refine E_getfield (v := .ref 76) rfl rfl rfl (by decide) rfl ?_
    refine E_iload_n rfl rfl ?_
    refine E_iaload (x := 0) (j := 7) rfl rfl (by decide) (by decide) rfl ?_
    refine E_iconst (x := 2) rfl (by decide) ?_
    refine E_ic (t := 77) (b := false) rfl rfl (by decide) ?_
    refine E_aload_n rfl rfl ?_
    refine E_getfield (v := .ref 76) rfl rfl rfl (by decide) rfl ?_
    refine E_iload_n rfl rfl ?_
    refine E_iaload (x := 0) (j := 5) rfl rfl (by decide) (by decide) rfl ?_
    refine E_iconst (x := 1) rfl (by decide) ?_
    refine E_ic (t := 84) (b := true) rfl rfl (by decide) ?_
    refine E_aload_n rfl rfl ?_
    refine E_getfield (v := .ref 76) rfl rfl rfl (by decide) rfl ?_
    refine E_iload_n rfl rfl ?_
    refine E_iaload (x := 0) (j := 5) rfl rfl (by decide) (by decide) rfl ?_
    refine E_if (t := 102) (b := true) rfl rfl (by decide) ?_
    refine E_aload_n rfl rfl ?_
    refine E_bipush (x := (-3)) rfl (by decide) ?_
    refine E_callV (v := some (.int (-3))) (As := [.ref 65, .int (-3)]) (r0 := []) (cs2 := ((w0.set 48 (.inl [0, 0, 0, 1, 0, 0, 0, 0])).set 66 (.inl [0, 0, 0, 1, 0, 0, 0, 0]))) rfl rfl rfl (Nat.le_of_ble_eq_true rfl) rfl rfl c35_X6_no (by decide) (by simp only [List.length_set]) ?_
    exact E_iret rfl rfl, (by simp only [List.length_set]; rfl), (by simp only [List.length_set]; rfl), ((ab_szs rfl).trans ((ab_szs rfl).trans rfl)), fun _ => rfl⟩
theorem f_copy_51 (a3 a4 a5 : Int32) : p1_P 3 78 2 137 [.ref 0, .int 6, .int 0, .int a3, .int a4, .int a5] [.ref 65, .int 6, .int 0, .int a3, .int a4, .int a5] :=
  ⟨(-3), (w0.set 48 (.inl [0, 0, 0, 1, 0, 0, 0, 0])), ((w0.set 48 (.inl [0, 0, 0, 1, 0, 0, 0, 0])).set 66 (.inl [0, 0, 0, 1, 0, 0, 0, 0])), by
    refine Ef.in (md := mX5_copy) (L := [some (.ref 0), some (.int 6), some (.int 0), some (.int a3), some (.int a4), some (.int a5), none, none]) rfl (Nat.le_of_ble_eq_true rfl) rfl ?_
    refine E_iload_n rfl rfl ?_
    refine E_callS (v := some (.int 1)) (As := [.int 6]) (r0 := []) (cs2 := w0) rfl rfl rfl (Nat.le_of_ble_eq_true rfl) rfl c22_X5_isShelf (by decide) rfl ?_
    refine E_if (t := 14) (b := false) rfl rfl (by decide) ?_
    refine E_iload_n rfl rfl ?_
    refine E_callS (v := some (.int 1)) (As := [.int 0]) (r0 := []) (cs2 := w0) rfl rfl rfl (Nat.le_of_ble_eq_true rfl) rfl c10_X5_isShelf (by decide) rfl ?_
    refine E_if (t := 20) (b := true) rfl rfl (by decide) ?_
    refine E_aload_n rfl rfl ?_
    refine E_getfield (v := .ref 31) rfl rfl rfl (by decide) rfl ?_
    refine E_iload_n rfl rfl ?_
    refine E_aaload (b := 61) (j := 6) rfl rfl (by decide) (by decide) rfl ?_
    refine E_astore (L2 := [some (.ref 0), some (.int 6), some (.int 0), some (.int a3), some (.int a4), some (.int a5), some (.ref 61), none]) rfl rfl ?_
    refine E_aload_n rfl rfl ?_
    refine E_getfield (v := .ref 31) rfl rfl rfl (by decide) rfl ?_
    refine E_iload_n rfl rfl ?_
    refine E_aaload (b := 49) (j := 0) rfl rfl (by decide) (by decide) rfl ?_
    refine E_astore (L2 := [some (.ref 0), some (.int 6), some (.int 0), some (.int a3), some (.int a4), some (.int a5), some (.ref 61), some (.ref 49)]) rfl rfl ?_
    refine E_aload rfl rfl ?_
    refine E_callV (v := some (.int 0)) (As := [.ref 61]) (r0 := []) (cs2 := w0) rfl rfl rfl (Nat.le_of_ble_eq_true rfl) rfl rfl c57_X3_isOtherThanRow (by decide) rfl ?_
    refine E_if (t := 62) (b := false) rfl rfl (by decide) ?_
    refine E_aload rfl rfl ?_
    refine E_callV (v := some (.int 0)) (As := [.ref 49]) (r0 := []) (cs2 := w0) rfl rfl rfl (Nat.le_of_ble_eq_true rfl) rfl rfl c30_X3_isOtherThanRow (by decide) rfl ?_
    refine E_if (t := 62) (b := false) rfl rfl (by decide) ?_
    refine E_aload rfl rfl ?_
    refine E_aload rfl rfl ?_
    refine E_callV (v := some (.int 0)) (As := [.ref 61, .ref 49]) (r0 := []) (cs2 := w0) rfl rfl rfl (Nat.le_of_ble_eq_true rfl) rfl rfl c112_X3_isOfOtherSort (by decide) rfl ?_
    refine E_if (t := 68) (b := true) rfl rfl (by decide) ?_
    refine E_aload rfl rfl ?_
    refine E_callV (v := some (.int 1)) (As := [.ref 61]) (r0 := []) (cs2 := w0) rfl rfl rfl (Nat.le_of_ble_eq_true rfl) rfl rfl c58_X3_isEmpty (by decide) rfl ?_
    refine E_if (t := 84) (b := true) rfl rfl (by decide) ?_
    refine E_aload_n rfl rfl ?_
    refine E_iconst (x := 3) rfl (by decide) ?_
    refine E_callV (v := some (.int (-3))) (As := [.ref 0, .int 3]) (r0 := []) (cs2 := (w0.set 48 (.inl [0, 0, 0, 1, 0, 0, 0, 0]))) rfl rfl rfl (Nat.le_of_ble_eq_true rfl) rfl rfl c32_X5_refuse (by decide) (by simp only [List.length_set]) ?_
    exact E_iret rfl rfl, by
    refine Ef.in (md := mX6_copy) (L := [some (.ref 65), some (.int 6), some (.int 0), some (.int a3), some (.int a4), some (.int a5), none]) rfl (Nat.le_of_ble_eq_true rfl) rfl ?_
    refine E_aload_n rfl rfl ?_
    refine E_iload_n rfl rfl ?_
    refine E_callV (v := some (.int 1)) (As := [.ref 65, .int 6]) (r0 := []) (cs2 := (w0.set 48 (.inl [0, 0, 0, 1, 0, 0, 0, 0]))) rfl rfl rfl (Nat.le_of_ble_eq_true rfl) rfl rfl c59_X6_isShelf (by decide) rfl ?_
    refine E_if (t := 16) (b := false) rfl rfl (by decide) ?_
    refine E_aload_n rfl rfl ?_
    refine E_iload_n rfl rfl ?_
    refine E_callV (v := some (.int 1)) (As := [.ref 65, .int 0]) (r0 := []) (cs2 := (w0.set 48 (.inl [0, 0, 0, 1, 0, 0, 0, 0]))) rfl rfl rfl (Nat.le_of_ble_eq_true rfl) rfl rfl c34_X6_isShelf (by decide) rfl ?_
    refine E_if (t := 22) (b := true) rfl rfl (by decide) ?_
    refine E_aload_n rfl rfl ?_
    refine E_getfield (v := .ref 76) rfl rfl rfl (by decide) rfl ?_
    refine E_iload_n rfl rfl ?_
    refine E_iaload (x := 0) (j := 6) rfl rfl (by decide) (by decide) rfl ?_
    refine E_iconst (x := 2) rfl (by decide) ?_
    refine E_ic (t := 77) (b := false) rfl rfl (by decide) ?_
    refine E_aload_n rfl rfl ?_
    refine E_getfield (v := .ref 76) rfl rfl rfl (by decide) rfl ?_
    refine E_iload_n rfl rfl ?_
    refine E_iaload (x := 0) (j := 0) rfl rfl (by decide) (by decide) rfl ?_
    refine E_iconst (x := 2) rfl (by decide) ?_
    refine E_ic (t := 77) (b := false) rfl rfl (by decide) ?_
    refine E_aload_n rfl rfl ?_
    refine E_getfield (v := .ref 76) rfl rfl rfl (by decide) rfl ?_
    refine E_iload_n rfl rfl ?_
    refine E_iaload (x := 0) (j := 6) rfl rfl (by decide) (by decide) rfl ?_
    refine E_iconst (x := 1) rfl (by decide) ?_
    refine E_ic (t := 84) (b := true) rfl rfl (by decide) ?_
    refine E_aload_n rfl rfl ?_
    refine E_getfield (v := .ref 76) rfl rfl rfl (by decide) rfl ?_
    refine E_iload_n rfl rfl ?_
    refine E_iaload (x := 0) (j := 6) rfl rfl (by decide) (by decide) rfl ?_
    refine E_if (t := 102) (b := true) rfl rfl (by decide) ?_
    refine E_aload_n rfl rfl ?_
    refine E_bipush (x := (-3)) rfl (by decide) ?_
    refine E_callV (v := some (.int (-3))) (As := [.ref 65, .int (-3)]) (r0 := []) (cs2 := ((w0.set 48 (.inl [0, 0, 0, 1, 0, 0, 0, 0])).set 66 (.inl [0, 0, 0, 1, 0, 0, 0, 0]))) rfl rfl rfl (Nat.le_of_ble_eq_true rfl) rfl rfl c35_X6_no (by decide) (by simp only [List.length_set]) ?_
    exact E_iret rfl rfl, (by simp only [List.length_set]; rfl), (by simp only [List.length_set]; rfl), ((ab_szs rfl).trans ((ab_szs rfl).trans rfl)), fun _ => rfl⟩
theorem f_copy_52 (a3 a4 a5 : Int32) : p1_P 3 78 2 137 [.ref 0, .int 6, .int 1, .int a3, .int a4, .int a5] [.ref 65, .int 6, .int 1, .int a3, .int a4, .int a5] :=
  ⟨(-3), (w0.set 48 (.inl [0, 0, 0, 1, 0, 0, 0, 0])), ((w0.set 48 (.inl [0, 0, 0, 1, 0, 0, 0, 0])).set 66 (.inl [0, 0, 0, 1, 0, 0, 0, 0])), by
    refine Ef.in (md := mX5_copy) (L := [some (.ref 0), some (.int 6), some (.int 1), some (.int a3), some (.int a4), some (.int a5), none, none]) rfl (Nat.le_of_ble_eq_true rfl) rfl ?_
    refine E_iload_n rfl rfl ?_
    refine E_callS (v := some (.int 1)) (As := [.int 6]) (r0 := []) (cs2 := w0) rfl rfl rfl (Nat.le_of_ble_eq_true rfl) rfl c22_X5_isShelf (by decide) rfl ?_
    refine E_if (t := 14) (b := false) rfl rfl (by decide) ?_
    refine E_iload_n rfl rfl ?_
    refine E_callS (v := some (.int 1)) (As := [.int 1]) (r0 := []) (cs2 := w0) rfl rfl rfl (Nat.le_of_ble_eq_true rfl) rfl c12_X5_isShelf (by decide) rfl ?_
    refine E_if (t := 20) (b := true) rfl rfl (by decide) ?_
    refine E_aload_n rfl rfl ?_
    refine E_getfield (v := .ref 31) rfl rfl rfl (by decide) rfl ?_
    refine E_iload_n rfl rfl ?_
    refine E_aaload (b := 61) (j := 6) rfl rfl (by decide) (by decide) rfl ?_
    refine E_astore (L2 := [some (.ref 0), some (.int 6), some (.int 1), some (.int a3), some (.int a4), some (.int a5), some (.ref 61), none]) rfl rfl ?_
    refine E_aload_n rfl rfl ?_
    refine E_getfield (v := .ref 31) rfl rfl rfl (by decide) rfl ?_
    refine E_iload_n rfl rfl ?_
    refine E_aaload (b := 51) (j := 1) rfl rfl (by decide) (by decide) rfl ?_
    refine E_astore (L2 := [some (.ref 0), some (.int 6), some (.int 1), some (.int a3), some (.int a4), some (.int a5), some (.ref 61), some (.ref 51)]) rfl rfl ?_
    refine E_aload rfl rfl ?_
    refine E_callV (v := some (.int 0)) (As := [.ref 61]) (r0 := []) (cs2 := w0) rfl rfl rfl (Nat.le_of_ble_eq_true rfl) rfl rfl c57_X3_isOtherThanRow (by decide) rfl ?_
    refine E_if (t := 62) (b := false) rfl rfl (by decide) ?_
    refine E_aload rfl rfl ?_
    refine E_callV (v := some (.int 0)) (As := [.ref 51]) (r0 := []) (cs2 := w0) rfl rfl rfl (Nat.le_of_ble_eq_true rfl) rfl rfl c37_X3_isOtherThanRow (by decide) rfl ?_
    refine E_if (t := 62) (b := false) rfl rfl (by decide) ?_
    refine E_aload rfl rfl ?_
    refine E_aload rfl rfl ?_
    refine E_callV (v := some (.int 0)) (As := [.ref 61, .ref 51]) (r0 := []) (cs2 := w0) rfl rfl rfl (Nat.le_of_ble_eq_true rfl) rfl rfl c113_X3_isOfOtherSort (by decide) rfl ?_
    refine E_if (t := 68) (b := true) rfl rfl (by decide) ?_
    refine E_aload rfl rfl ?_
    refine E_callV (v := some (.int 1)) (As := [.ref 61]) (r0 := []) (cs2 := w0) rfl rfl rfl (Nat.le_of_ble_eq_true rfl) rfl rfl c58_X3_isEmpty (by decide) rfl ?_
    refine E_if (t := 84) (b := true) rfl rfl (by decide) ?_
    refine E_aload_n rfl rfl ?_
    refine E_iconst (x := 3) rfl (by decide) ?_
    refine E_callV (v := some (.int (-3))) (As := [.ref 0, .int 3]) (r0 := []) (cs2 := (w0.set 48 (.inl [0, 0, 0, 1, 0, 0, 0, 0]))) rfl rfl rfl (Nat.le_of_ble_eq_true rfl) rfl rfl c32_X5_refuse (by decide) (by simp only [List.length_set]) ?_
    exact E_iret rfl rfl, by
    refine Ef.in (md := mX6_copy) (L := [some (.ref 65), some (.int 6), some (.int 1), some (.int a3), some (.int a4), some (.int a5), none]) rfl (Nat.le_of_ble_eq_true rfl) rfl ?_
    refine E_aload_n rfl rfl ?_
    refine E_iload_n rfl rfl ?_
    refine E_callV (v := some (.int 1)) (As := [.ref 65, .int 6]) (r0 := []) (cs2 := (w0.set 48 (.inl [0, 0, 0, 1, 0, 0, 0, 0]))) rfl rfl rfl (Nat.le_of_ble_eq_true rfl) rfl rfl c59_X6_isShelf (by decide) rfl ?_
    refine E_if (t := 16) (b := false) rfl rfl (by decide) ?_
    refine E_aload_n rfl rfl ?_
    refine E_iload_n rfl rfl ?_
    refine E_callV (v := some (.int 1)) (As := [.ref 65, .int 1]) (r0 := []) (cs2 := (w0.set 48 (.inl [0, 0, 0, 1, 0, 0, 0, 0]))) rfl rfl rfl (Nat.le_of_ble_eq_true rfl) rfl rfl c39_X6_isShelf (by decide) rfl ?_
    refine E_if (t := 22) (b := true) rfl rfl (by decide) ?_
    refine E_aload_n rfl rfl ?_
    refine E_getfield (v := .ref 76) rfl rfl rfl (by decide) rfl ?_
    refine E_iload_n rfl rfl ?_
    refine E_iaload (x := 0) (j := 6) rfl rfl (by decide) (by decide) rfl ?_
    refine E_iconst (x := 2) rfl (by decide) ?_
    refine E_ic (t := 77) (b := false) rfl rfl (by decide) ?_
    refine E_aload_n rfl rfl ?_
    refine E_getfield (v := .ref 76) rfl rfl rfl (by decide) rfl ?_
    refine E_iload_n rfl rfl ?_
    refine E_iaload (x := 0) (j := 1) rfl rfl (by decide) (by decide) rfl ?_
    refine E_iconst (x := 2) rfl (by decide) ?_
    refine E_ic (t := 77) (b := false) rfl rfl (by decide) ?_
    refine E_aload_n rfl rfl ?_
    refine E_getfield (v := .ref 76) rfl rfl rfl (by decide) rfl ?_
    refine E_iload_n rfl rfl ?_
    refine E_iaload (x := 0) (j := 6) rfl rfl (by decide) (by decide) rfl ?_
    refine E_iconst (x := 1) rfl (by decide) ?_
    refine E_ic (t := 84) (b := true) rfl rfl (by decide) ?_
    refine E_aload_n rfl rfl ?_
    refine E_getfield (v := .ref 76) rfl rfl rfl (by decide) rfl ?_
    refine E_iload_n rfl rfl ?_
    refine E_iaload (x := 0) (j := 6) rfl rfl (by decide) (by decide) rfl ?_
    refine E_if (t := 102) (b := true) rfl rfl (by decide) ?_
    refine E_aload_n rfl rfl ?_
    refine E_bipush (x := (-3)) rfl (by decide) ?_
    refine E_callV (v := some (.int (-3))) (As := [.ref 65, .int (-3)]) (r0 := []) (cs2 := ((w0.set 48 (.inl [0, 0, 0, 1, 0, 0, 0, 0])).set 66 (.inl [0, 0, 0, 1, 0, 0, 0, 0]))) rfl rfl rfl (Nat.le_of_ble_eq_true rfl) rfl rfl c35_X6_no (by decide) (by simp only [List.length_set]) ?_
    exact E_iret rfl rfl, (by simp only [List.length_set]; rfl), (by simp only [List.length_set]; rfl), ((ab_szs rfl).trans ((ab_szs rfl).trans rfl)), fun _ => rfl⟩
theorem f_copy_53 (a3 a4 a5 : Int32) : p1_P 3 78 2 137 [.ref 0, .int 6, .int 2, .int a3, .int a4, .int a5] [.ref 65, .int 6, .int 2, .int a3, .int a4, .int a5] :=
  ⟨(-3), (w0.set 48 (.inl [0, 0, 0, 1, 0, 0, 0, 0])), ((w0.set 48 (.inl [0, 0, 0, 1, 0, 0, 0, 0])).set 66 (.inl [0, 0, 0, 1, 0, 0, 0, 0])), by
    refine Ef.in (md := mX5_copy) (L := [some (.ref 0), some (.int 6), some (.int 2), some (.int a3), some (.int a4), some (.int a5), none, none]) rfl (Nat.le_of_ble_eq_true rfl) rfl ?_
    refine E_iload_n rfl rfl ?_
    refine E_callS (v := some (.int 1)) (As := [.int 6]) (r0 := []) (cs2 := w0) rfl rfl rfl (Nat.le_of_ble_eq_true rfl) rfl c22_X5_isShelf (by decide) rfl ?_
    refine E_if (t := 14) (b := false) rfl rfl (by decide) ?_
    refine E_iload_n rfl rfl ?_
    refine E_callS (v := some (.int 1)) (As := [.int 2]) (r0 := []) (cs2 := w0) rfl rfl rfl (Nat.le_of_ble_eq_true rfl) rfl c14_X5_isShelf (by decide) rfl ?_
    refine E_if (t := 20) (b := true) rfl rfl (by decide) ?_
    refine E_aload_n rfl rfl ?_
    refine E_getfield (v := .ref 31) rfl rfl rfl (by decide) rfl ?_
    refine E_iload_n rfl rfl ?_
    refine E_aaload (b := 61) (j := 6) rfl rfl (by decide) (by decide) rfl ?_
    refine E_astore (L2 := [some (.ref 0), some (.int 6), some (.int 2), some (.int a3), some (.int a4), some (.int a5), some (.ref 61), none]) rfl rfl ?_
    refine E_aload_n rfl rfl ?_
    refine E_getfield (v := .ref 31) rfl rfl rfl (by decide) rfl ?_
    refine E_iload_n rfl rfl ?_
    refine E_aaload (b := 53) (j := 2) rfl rfl (by decide) (by decide) rfl ?_
    refine E_astore (L2 := [some (.ref 0), some (.int 6), some (.int 2), some (.int a3), some (.int a4), some (.int a5), some (.ref 61), some (.ref 53)]) rfl rfl ?_
    refine E_aload rfl rfl ?_
    refine E_callV (v := some (.int 0)) (As := [.ref 61]) (r0 := []) (cs2 := w0) rfl rfl rfl (Nat.le_of_ble_eq_true rfl) rfl rfl c57_X3_isOtherThanRow (by decide) rfl ?_
    refine E_if (t := 62) (b := false) rfl rfl (by decide) ?_
    refine E_aload rfl rfl ?_
    refine E_callV (v := some (.int 0)) (As := [.ref 53]) (r0 := []) (cs2 := w0) rfl rfl rfl (Nat.le_of_ble_eq_true rfl) rfl rfl c41_X3_isOtherThanRow (by decide) rfl ?_
    refine E_if (t := 62) (b := false) rfl rfl (by decide) ?_
    refine E_aload rfl rfl ?_
    refine E_aload rfl rfl ?_
    refine E_callV (v := some (.int 0)) (As := [.ref 61, .ref 53]) (r0 := []) (cs2 := w0) rfl rfl rfl (Nat.le_of_ble_eq_true rfl) rfl rfl c114_X3_isOfOtherSort (by decide) rfl ?_
    refine E_if (t := 68) (b := true) rfl rfl (by decide) ?_
    refine E_aload rfl rfl ?_
    refine E_callV (v := some (.int 1)) (As := [.ref 61]) (r0 := []) (cs2 := w0) rfl rfl rfl (Nat.le_of_ble_eq_true rfl) rfl rfl c58_X3_isEmpty (by decide) rfl ?_
    refine E_if (t := 84) (b := true) rfl rfl (by decide) ?_
    refine E_aload_n rfl rfl ?_
    refine E_iconst (x := 3) rfl (by decide) ?_
    refine E_callV (v := some (.int (-3))) (As := [.ref 0, .int 3]) (r0 := []) (cs2 := (w0.set 48 (.inl [0, 0, 0, 1, 0, 0, 0, 0]))) rfl rfl rfl (Nat.le_of_ble_eq_true rfl) rfl rfl c32_X5_refuse (by decide) (by simp only [List.length_set]) ?_
    exact E_iret rfl rfl, by
    refine Ef.in (md := mX6_copy) (L := [some (.ref 65), some (.int 6), some (.int 2), some (.int a3), some (.int a4), some (.int a5), none]) rfl (Nat.le_of_ble_eq_true rfl) rfl ?_
    refine E_aload_n rfl rfl ?_
    refine E_iload_n rfl rfl ?_
    refine E_callV (v := some (.int 1)) (As := [.ref 65, .int 6]) (r0 := []) (cs2 := (w0.set 48 (.inl [0, 0, 0, 1, 0, 0, 0, 0]))) rfl rfl rfl (Nat.le_of_ble_eq_true rfl) rfl rfl c59_X6_isShelf (by decide) rfl ?_
    refine E_if (t := 16) (b := false) rfl rfl (by decide) ?_
    refine E_aload_n rfl rfl ?_
    refine E_iload_n rfl rfl ?_
    refine E_callV (v := some (.int 1)) (As := [.ref 65, .int 2]) (r0 := []) (cs2 := (w0.set 48 (.inl [0, 0, 0, 1, 0, 0, 0, 0]))) rfl rfl rfl (Nat.le_of_ble_eq_true rfl) rfl rfl c43_X6_isShelf (by decide) rfl ?_
    refine E_if (t := 22) (b := true) rfl rfl (by decide) ?_
    refine E_aload_n rfl rfl ?_
    refine E_getfield (v := .ref 76) rfl rfl rfl (by decide) rfl ?_
    refine E_iload_n rfl rfl ?_
    refine E_iaload (x := 0) (j := 6) rfl rfl (by decide) (by decide) rfl ?_
    refine E_iconst (x := 2) rfl (by decide) ?_
    refine E_ic (t := 77) (b := false) rfl rfl (by decide) ?_
    refine E_aload_n rfl rfl ?_
    refine E_getfield (v := .ref 76) rfl rfl rfl (by decide) rfl ?_
    refine E_iload_n rfl rfl ?_
    refine E_iaload (x := 0) (j := 2) rfl rfl (by decide) (by decide) rfl ?_
    refine E_iconst (x := 2) rfl (by decide) ?_
    refine E_ic (t := 77) (b := false) rfl rfl (by decide) ?_
    refine E_aload_n rfl rfl ?_
    refine E_getfield (v := .ref 76) rfl rfl rfl (by decide) rfl ?_
    refine E_iload_n rfl rfl ?_
    refine E_iaload (x := 0) (j := 6) rfl rfl (by decide) (by decide) rfl ?_
    refine E_iconst (x := 1) rfl (by decide) ?_
    refine E_ic (t := 84) (b := true) rfl rfl (by decide) ?_
    refine E_aload_n rfl rfl ?_
    refine E_getfield (v := .ref 76) rfl rfl rfl (by decide) rfl ?_
    refine E_iload_n rfl rfl ?_
    refine E_iaload (x := 0) (j := 6) rfl rfl (by decide) (by decide) rfl ?_
    refine E_if (t := 102) (b := true) rfl rfl (by decide) ?_
    refine E_aload_n rfl rfl ?_
    refine E_bipush (x := (-3)) rfl (by decide) ?_
    refine E_callV (v := some (.int (-3))) (As := [.ref 65, .int (-3)]) (r0 := []) (cs2 := ((w0.set 48 (.inl [0, 0, 0, 1, 0, 0, 0, 0])).set 66 (.inl [0, 0, 0, 1, 0, 0, 0, 0]))) rfl rfl rfl (Nat.le_of_ble_eq_true rfl) rfl rfl c35_X6_no (by decide) (by simp only [List.length_set]) ?_
    exact E_iret rfl rfl, (by simp only [List.length_set]; rfl), (by simp only [List.length_set]; rfl), ((ab_szs rfl).trans ((ab_szs rfl).trans rfl)), fun _ => rfl⟩
theorem f_copy_54 (a3 a4 a5 : Int32) : p1_P 3 78 2 137 [.ref 0, .int 6, .int 3, .int a3, .int a4, .int a5] [.ref 65, .int 6, .int 3, .int a3, .int a4, .int a5] :=
  ⟨(-3), (w0.set 48 (.inl [0, 0, 0, 1, 0, 0, 0, 0])), ((w0.set 48 (.inl [0, 0, 0, 1, 0, 0, 0, 0])).set 66 (.inl [0, 0, 0, 1, 0, 0, 0, 0])), by
    refine Ef.in (md := mX5_copy) (L := [some (.ref 0), some (.int 6), some (.int 3), some (.int a3), some (.int a4), some (.int a5), none, none]) rfl (Nat.le_of_ble_eq_true rfl) rfl ?_
    refine E_iload_n rfl rfl ?_
    refine E_callS (v := some (.int 1)) (As := [.int 6]) (r0 := []) (cs2 := w0) rfl rfl rfl (Nat.le_of_ble_eq_true rfl) rfl c22_X5_isShelf (by decide) rfl ?_
    refine E_if (t := 14) (b := false) rfl rfl (by decide) ?_
    refine E_iload_n rfl rfl ?_
    refine E_callS (v := some (.int 1)) (As := [.int 3]) (r0 := []) (cs2 := w0) rfl rfl rfl (Nat.le_of_ble_eq_true rfl) rfl c16_X5_isShelf (by decide) rfl ?_
    refine E_if (t := 20) (b := true) rfl rfl (by decide) ?_
    refine E_aload_n rfl rfl ?_
    refine E_getfield (v := .ref 31) rfl rfl rfl (by decide) rfl ?_
    refine E_iload_n rfl rfl ?_
    refine E_aaload (b := 61) (j := 6) rfl rfl (by decide) (by decide) rfl ?_
    refine E_astore (L2 := [some (.ref 0), some (.int 6), some (.int 3), some (.int a3), some (.int a4), some (.int a5), some (.ref 61), none]) rfl rfl ?_
    refine E_aload_n rfl rfl ?_
    refine E_getfield (v := .ref 31) rfl rfl rfl (by decide) rfl ?_
    refine E_iload_n rfl rfl ?_
    refine E_aaload (b := 55) (j := 3) rfl rfl (by decide) (by decide) rfl ?_
    refine E_astore (L2 := [some (.ref 0), some (.int 6), some (.int 3), some (.int a3), some (.int a4), some (.int a5), some (.ref 61), some (.ref 55)]) rfl rfl ?_
    refine E_aload rfl rfl ?_
    refine E_callV (v := some (.int 0)) (As := [.ref 61]) (r0 := []) (cs2 := w0) rfl rfl rfl (Nat.le_of_ble_eq_true rfl) rfl rfl c57_X3_isOtherThanRow (by decide) rfl ?_
    refine E_if (t := 62) (b := false) rfl rfl (by decide) ?_
    refine E_aload rfl rfl ?_
    refine E_callV (v := some (.int 0)) (As := [.ref 55]) (r0 := []) (cs2 := w0) rfl rfl rfl (Nat.le_of_ble_eq_true rfl) rfl rfl c45_X3_isOtherThanRow (by decide) rfl ?_
    refine E_if (t := 62) (b := false) rfl rfl (by decide) ?_
    refine E_aload rfl rfl ?_
    refine E_aload rfl rfl ?_
    refine E_callV (v := some (.int 0)) (As := [.ref 61, .ref 55]) (r0 := []) (cs2 := w0) rfl rfl rfl (Nat.le_of_ble_eq_true rfl) rfl rfl c115_X3_isOfOtherSort (by decide) rfl ?_
    refine E_if (t := 68) (b := true) rfl rfl (by decide) ?_
    refine E_aload rfl rfl ?_
    refine E_callV (v := some (.int 1)) (As := [.ref 61]) (r0 := []) (cs2 := w0) rfl rfl rfl (Nat.le_of_ble_eq_true rfl) rfl rfl c58_X3_isEmpty (by decide) rfl ?_
    refine E_if (t := 84) (b := true) rfl rfl (by decide) ?_
    refine E_aload_n rfl rfl ?_
    refine E_iconst (x := 3) rfl (by decide) ?_
    refine E_callV (v := some (.int (-3))) (As := [.ref 0, .int 3]) (r0 := []) (cs2 := (w0.set 48 (.inl [0, 0, 0, 1, 0, 0, 0, 0]))) rfl rfl rfl (Nat.le_of_ble_eq_true rfl) rfl rfl c32_X5_refuse (by decide) (by simp only [List.length_set]) ?_
    exact E_iret rfl rfl, by
    refine Ef.in (md := mX6_copy) (L := [some (.ref 65), some (.int 6), some (.int 3), some (.int a3), some (.int a4), some (.int a5), none]) rfl (Nat.le_of_ble_eq_true rfl) rfl ?_
    refine E_aload_n rfl rfl ?_
    refine E_iload_n rfl rfl ?_
    refine E_callV (v := some (.int 1)) (As := [.ref 65, .int 6]) (r0 := []) (cs2 := (w0.set 48 (.inl [0, 0, 0, 1, 0, 0, 0, 0]))) rfl rfl rfl (Nat.le_of_ble_eq_true rfl) rfl rfl c59_X6_isShelf (by decide) rfl ?_
    refine E_if (t := 16) (b := false) rfl rfl (by decide) ?_
    refine E_aload_n rfl rfl ?_
    refine E_iload_n rfl rfl ?_
    refine E_callV (v := some (.int 1)) (As := [.ref 65, .int 3]) (r0 := []) (cs2 := (w0.set 48 (.inl [0, 0, 0, 1, 0, 0, 0, 0]))) rfl rfl rfl (Nat.le_of_ble_eq_true rfl) rfl rfl c47_X6_isShelf (by decide) rfl ?_
    refine E_if (t := 22) (b := true) rfl rfl (by decide) ?_
    refine E_aload_n rfl rfl ?_
    refine E_getfield (v := .ref 76) rfl rfl rfl (by decide) rfl ?_
    refine E_iload_n rfl rfl ?_
    refine E_iaload (x := 0) (j := 6) rfl rfl (by decide) (by decide) rfl ?_
    refine E_iconst (x := 2) rfl (by decide) ?_
    refine E_ic (t := 77) (b := false) rfl rfl (by decide) ?_
    refine E_aload_n rfl rfl ?_
    refine E_getfield (v := .ref 76) rfl rfl rfl (by decide) rfl ?_
    refine E_iload_n rfl rfl ?_
    refine E_iaload (x := 0) (j := 3) rfl rfl (by decide) (by decide) rfl ?_
    refine E_iconst (x := 2) rfl (by decide) ?_
    refine E_ic (t := 77) (b := false) rfl rfl (by decide) ?_
    refine E_aload_n rfl rfl ?_
    refine E_getfield (v := .ref 76) rfl rfl rfl (by decide) rfl ?_
    refine E_iload_n rfl rfl ?_
    refine E_iaload (x := 0) (j := 6) rfl rfl (by decide) (by decide) rfl ?_
    refine E_iconst (x := 1) rfl (by decide) ?_
    refine E_ic (t := 84) (b := true) rfl rfl (by decide) ?_
    refine E_aload_n rfl rfl ?_
    refine E_getfield (v := .ref 76) rfl rfl rfl (by decide) rfl ?_
    refine E_iload_n rfl rfl ?_
    refine E_iaload (x := 0) (j := 6) rfl rfl (by decide) (by decide) rfl ?_
    refine E_if (t := 102) (b := true) rfl rfl (by decide) ?_
    refine E_aload_n rfl rfl ?_
    refine E_bipush (x := (-3)) rfl (by decide) ?_
    refine E_callV (v := some (.int (-3))) (As := [.ref 65, .int (-3)]) (r0 := []) (cs2 := ((w0.set 48 (.inl [0, 0, 0, 1, 0, 0, 0, 0])).set 66 (.inl [0, 0, 0, 1, 0, 0, 0, 0]))) rfl rfl rfl (Nat.le_of_ble_eq_true rfl) rfl rfl c35_X6_no (by decide) (by simp only [List.length_set]) ?_
    exact E_iret rfl rfl, (by simp only [List.length_set]; rfl), (by simp only [List.length_set]; rfl), ((ab_szs rfl).trans ((ab_szs rfl).trans rfl)), fun _ => rfl⟩
theorem f_copy_55 (a3 a4 a5 : Int32) : p1_P 3 78 2 137 [.ref 0, .int 6, .int 4, .int a3, .int a4, .int a5] [.ref 65, .int 6, .int 4, .int a3, .int a4, .int a5] :=
  ⟨(-3), (w0.set 48 (.inl [0, 0, 0, 1, 0, 0, 0, 0])), ((w0.set 48 (.inl [0, 0, 0, 1, 0, 0, 0, 0])).set 66 (.inl [0, 0, 0, 1, 0, 0, 0, 0])), by
    refine Ef.in (md := mX5_copy) (L := [some (.ref 0), some (.int 6), some (.int 4), some (.int a3), some (.int a4), some (.int a5), none, none]) rfl (Nat.le_of_ble_eq_true rfl) rfl ?_
    refine E_iload_n rfl rfl ?_
    refine E_callS (v := some (.int 1)) (As := [.int 6]) (r0 := []) (cs2 := w0) rfl rfl rfl (Nat.le_of_ble_eq_true rfl) rfl c22_X5_isShelf (by decide) rfl ?_
    refine E_if (t := 14) (b := false) rfl rfl (by decide) ?_
    refine E_iload_n rfl rfl ?_
    refine E_callS (v := some (.int 1)) (As := [.int 4]) (r0 := []) (cs2 := w0) rfl rfl rfl (Nat.le_of_ble_eq_true rfl) rfl c18_X5_isShelf (by decide) rfl ?_
    refine E_if (t := 20) (b := true) rfl rfl (by decide) ?_
    refine E_aload_n rfl rfl ?_
    refine E_getfield (v := .ref 31) rfl rfl rfl (by decide) rfl ?_
    refine E_iload_n rfl rfl ?_
    refine E_aaload (b := 61) (j := 6) rfl rfl (by decide) (by decide) rfl ?_
    refine E_astore (L2 := [some (.ref 0), some (.int 6), some (.int 4), some (.int a3), some (.int a4), some (.int a5), some (.ref 61), none]) rfl rfl ?_
    refine E_aload_n rfl rfl ?_
    refine E_getfield (v := .ref 31) rfl rfl rfl (by decide) rfl ?_
    refine E_iload_n rfl rfl ?_
    refine E_aaload (b := 57) (j := 4) rfl rfl (by decide) (by decide) rfl ?_
    refine E_astore (L2 := [some (.ref 0), some (.int 6), some (.int 4), some (.int a3), some (.int a4), some (.int a5), some (.ref 61), some (.ref 57)]) rfl rfl ?_
    refine E_aload rfl rfl ?_
    refine E_callV (v := some (.int 0)) (As := [.ref 61]) (r0 := []) (cs2 := w0) rfl rfl rfl (Nat.le_of_ble_eq_true rfl) rfl rfl c57_X3_isOtherThanRow (by decide) rfl ?_
    refine E_if (t := 62) (b := false) rfl rfl (by decide) ?_
    refine E_aload rfl rfl ?_
    refine E_callV (v := some (.int 0)) (As := [.ref 57]) (r0 := []) (cs2 := w0) rfl rfl rfl (Nat.le_of_ble_eq_true rfl) rfl rfl c49_X3_isOtherThanRow (by decide) rfl ?_
    refine E_if (t := 62) (b := false) rfl rfl (by decide) ?_
    refine E_aload rfl rfl ?_
    refine E_aload rfl rfl ?_
    refine E_callV (v := some (.int 0)) (As := [.ref 61, .ref 57]) (r0 := []) (cs2 := w0) rfl rfl rfl (Nat.le_of_ble_eq_true rfl) rfl rfl c116_X3_isOfOtherSort (by decide) rfl ?_
    refine E_if (t := 68) (b := true) rfl rfl (by decide) ?_
    refine E_aload rfl rfl ?_
    refine E_callV (v := some (.int 1)) (As := [.ref 61]) (r0 := []) (cs2 := w0) rfl rfl rfl (Nat.le_of_ble_eq_true rfl) rfl rfl c58_X3_isEmpty (by decide) rfl ?_
    refine E_if (t := 84) (b := true) rfl rfl (by decide) ?_
    refine E_aload_n rfl rfl ?_
    refine E_iconst (x := 3) rfl (by decide) ?_
    refine E_callV (v := some (.int (-3))) (As := [.ref 0, .int 3]) (r0 := []) (cs2 := (w0.set 48 (.inl [0, 0, 0, 1, 0, 0, 0, 0]))) rfl rfl rfl (Nat.le_of_ble_eq_true rfl) rfl rfl c32_X5_refuse (by decide) (by simp only [List.length_set]) ?_
    exact E_iret rfl rfl, by
    refine Ef.in (md := mX6_copy) (L := [some (.ref 65), some (.int 6), some (.int 4), some (.int a3), some (.int a4), some (.int a5), none]) rfl (Nat.le_of_ble_eq_true rfl) rfl ?_
    refine E_aload_n rfl rfl ?_
    refine E_iload_n rfl rfl ?_
    refine E_callV (v := some (.int 1)) (As := [.ref 65, .int 6]) (r0 := []) (cs2 := (w0.set 48 (.inl [0, 0, 0, 1, 0, 0, 0, 0]))) rfl rfl rfl (Nat.le_of_ble_eq_true rfl) rfl rfl c59_X6_isShelf (by decide) rfl ?_
    refine E_if (t := 16) (b := false) rfl rfl (by decide) ?_
    refine E_aload_n rfl rfl ?_
    refine E_iload_n rfl rfl ?_
    refine E_callV (v := some (.int 1)) (As := [.ref 65, .int 4]) (r0 := []) (cs2 := (w0.set 48 (.inl [0, 0, 0, 1, 0, 0, 0, 0]))) rfl rfl rfl (Nat.le_of_ble_eq_true rfl) rfl rfl c51_X6_isShelf (by decide) rfl ?_
    refine E_if (t := 22) (b := true) rfl rfl (by decide) ?_
    refine E_aload_n rfl rfl ?_
    refine E_getfield (v := .ref 76) rfl rfl rfl (by decide) rfl ?_
    refine E_iload_n rfl rfl ?_
    refine E_iaload (x := 0) (j := 6) rfl rfl (by decide) (by decide) rfl ?_
    refine E_iconst (x := 2) rfl (by decide) ?_
    refine E_ic (t := 77) (b := false) rfl rfl (by decide) ?_
    refine E_aload_n rfl rfl ?_
    refine E_getfield (v := .ref 76) rfl rfl rfl (by decide) rfl ?_
    refine E_iload_n rfl rfl ?_
    refine E_iaload (x := 0) (j := 4) rfl rfl (by decide) (by decide) rfl ?_
    refine E_iconst (x := 2) rfl (by decide) ?_
    refine E_ic (t := 77) (b := false) rfl rfl (by decide) ?_
    refine E_aload_n rfl rfl ?_
    refine E_getfield (v := .ref 76) rfl rfl rfl (by decide) rfl ?_
    refine E_iload_n rfl rfl ?_
    refine E_iaload (x := 0) (j := 6) rfl rfl (by decide) (by decide) rfl ?_
    refine E_iconst (x := 1) rfl (by decide) ?_
    refine E_ic (t := 84) (b := true) rfl rfl (by decide) ?_
    refine E_aload_n rfl rfl ?_
    refine E_getfield (v := .ref 76) rfl rfl rfl (by decide) rfl ?_
    refine E_iload_n rfl rfl ?_
    refine E_iaload (x := 0) (j := 6) rfl rfl (by decide) (by decide) rfl ?_
    refine E_if (t := 102) (b := true) rfl rfl (by decide) ?_
    refine E_aload_n rfl rfl ?_
    refine E_bipush (x := (-3)) rfl (by decide) ?_
    refine E_callV (v := some (.int (-3))) (As := [.ref 65, .int (-3)]) (r0 := []) (cs2 := ((w0.set 48 (.inl [0, 0, 0, 1, 0, 0, 0, 0])).set 66 (.inl [0, 0, 0, 1, 0, 0, 0, 0]))) rfl rfl rfl (Nat.le_of_ble_eq_true rfl) rfl rfl c35_X6_no (by decide) (by simp only [List.length_set]) ?_
    exact E_iret rfl rfl, (by simp only [List.length_set]; rfl), (by simp only [List.length_set]; rfl), ((ab_szs rfl).trans ((ab_szs rfl).trans rfl)), fun _ => rfl⟩
theorem f_copy_56 (a3 a4 a5 : Int32) : p1_P 3 78 2 137 [.ref 0, .int 6, .int 5, .int a3, .int a4, .int a5] [.ref 65, .int 6, .int 5, .int a3, .int a4, .int a5] :=
  ⟨(-3), (w0.set 48 (.inl [0, 0, 0, 1, 0, 0, 0, 0])), ((w0.set 48 (.inl [0, 0, 0, 1, 0, 0, 0, 0])).set 66 (.inl [0, 0, 0, 1, 0, 0, 0, 0])), by
    refine Ef.in (md := mX5_copy) (L := [some (.ref 0), some (.int 6), some (.int 5), some (.int a3), some (.int a4), some (.int a5), none, none]) rfl (Nat.le_of_ble_eq_true rfl) rfl ?_
    refine E_iload_n rfl rfl ?_
    refine E_callS (v := some (.int 1)) (As := [.int 6]) (r0 := []) (cs2 := w0) rfl rfl rfl (Nat.le_of_ble_eq_true rfl) rfl c22_X5_isShelf (by decide) rfl ?_
    refine E_if (t := 14) (b := false) rfl rfl (by decide) ?_
    refine E_iload_n rfl rfl ?_
    refine E_callS (v := some (.int 1)) (As := [.int 5]) (r0 := []) (cs2 := w0) rfl rfl rfl (Nat.le_of_ble_eq_true rfl) rfl c20_X5_isShelf (by decide) rfl ?_
    refine E_if (t := 20) (b := true) rfl rfl (by decide) ?_
    refine E_aload_n rfl rfl ?_
    refine E_getfield (v := .ref 31) rfl rfl rfl (by decide) rfl ?_
    refine E_iload_n rfl rfl ?_
    refine E_aaload (b := 61) (j := 6) rfl rfl (by decide) (by decide) rfl ?_
    refine E_astore (L2 := [some (.ref 0), some (.int 6), some (.int 5), some (.int a3), some (.int a4), some (.int a5), some (.ref 61), none]) rfl rfl ?_
    refine E_aload_n rfl rfl ?_
    refine E_getfield (v := .ref 31) rfl rfl rfl (by decide) rfl ?_
    refine E_iload_n rfl rfl ?_
    refine E_aaload (b := 59) (j := 5) rfl rfl (by decide) (by decide) rfl ?_
    refine E_astore (L2 := [some (.ref 0), some (.int 6), some (.int 5), some (.int a3), some (.int a4), some (.int a5), some (.ref 61), some (.ref 59)]) rfl rfl ?_
    refine E_aload rfl rfl ?_
    refine E_callV (v := some (.int 0)) (As := [.ref 61]) (r0 := []) (cs2 := w0) rfl rfl rfl (Nat.le_of_ble_eq_true rfl) rfl rfl c57_X3_isOtherThanRow (by decide) rfl ?_
    refine E_if (t := 62) (b := false) rfl rfl (by decide) ?_
    refine E_aload rfl rfl ?_
    refine E_callV (v := some (.int 0)) (As := [.ref 59]) (r0 := []) (cs2 := w0) rfl rfl rfl (Nat.le_of_ble_eq_true rfl) rfl rfl c53_X3_isOtherThanRow (by decide) rfl ?_
    refine E_if (t := 62) (b := false) rfl rfl (by decide) ?_
    refine E_aload rfl rfl ?_
    refine E_aload rfl rfl ?_
    refine E_callV (v := some (.int 0)) (As := [.ref 61, .ref 59]) (r0 := []) (cs2 := w0) rfl rfl rfl (Nat.le_of_ble_eq_true rfl) rfl rfl c117_X3_isOfOtherSort (by decide) rfl ?_
    refine E_if (t := 68) (b := true) rfl rfl (by decide) ?_
    refine E_aload rfl rfl ?_
    refine E_callV (v := some (.int 1)) (As := [.ref 61]) (r0 := []) (cs2 := w0) rfl rfl rfl (Nat.le_of_ble_eq_true rfl) rfl rfl c58_X3_isEmpty (by decide) rfl ?_
    refine E_if (t := 84) (b := true) rfl rfl (by decide) ?_
    refine E_aload_n rfl rfl ?_
    refine E_iconst (x := 3) rfl (by decide) ?_
    refine E_callV (v := some (.int (-3))) (As := [.ref 0, .int 3]) (r0 := []) (cs2 := (w0.set 48 (.inl [0, 0, 0, 1, 0, 0, 0, 0]))) rfl rfl rfl (Nat.le_of_ble_eq_true rfl) rfl rfl c32_X5_refuse (by decide) (by simp only [List.length_set]) ?_
    exact E_iret rfl rfl, by
    refine Ef.in (md := mX6_copy) (L := [some (.ref 65), some (.int 6), some (.int 5), some (.int a3), some (.int a4), some (.int a5), none]) rfl (Nat.le_of_ble_eq_true rfl) rfl ?_
    refine E_aload_n rfl rfl ?_
    refine E_iload_n rfl rfl ?_
    refine E_callV (v := some (.int 1)) (As := [.ref 65, .int 6]) (r0 := []) (cs2 := (w0.set 48 (.inl [0, 0, 0, 1, 0, 0, 0, 0]))) rfl rfl rfl (Nat.le_of_ble_eq_true rfl) rfl rfl c59_X6_isShelf (by decide) rfl ?_
    refine E_if (t := 16) (b := false) rfl rfl (by decide) ?_
    refine E_aload_n rfl rfl ?_
    refine E_iload_n rfl rfl ?_
    refine E_callV (v := some (.int 1)) (As := [.ref 65, .int 5]) (r0 := []) (cs2 := (w0.set 48 (.inl [0, 0, 0, 1, 0, 0, 0, 0]))) rfl rfl rfl (Nat.le_of_ble_eq_true rfl) rfl rfl c55_X6_isShelf (by decide) rfl ?_
    refine E_if (t := 22) (b := true) rfl rfl (by decide) ?_
    refine E_aload_n rfl rfl ?_
    refine E_getfield (v := .ref 76) rfl rfl rfl (by decide) rfl ?_
    refine E_iload_n rfl rfl ?_
    refine E_iaload (x := 0) (j := 6) rfl rfl (by decide) (by decide) rfl ?_
    refine E_iconst (x := 2) rfl (by decide) ?_
    refine E_ic (t := 77) (b := false) rfl rfl (by decide) ?_
    refine E_aload_n rfl rfl ?_
    refine E_getfield (v := .ref 76) rfl rfl rfl (by decide) rfl ?_
    refine E_iload_n rfl rfl ?_
    refine E_iaload (x := 0) (j := 5) rfl rfl (by decide) (by decide) rfl ?_
    refine E_iconst (x := 2) rfl (by decide) ?_
    refine E_ic (t := 77) (b := false) rfl rfl (by decide) ?_
    refine E_aload_n rfl rfl ?_
    refine E_getfield (v := .ref 76) rfl rfl rfl (by decide) rfl ?_
    refine E_iload_n rfl rfl ?_
    refine E_iaload (x := 0) (j := 6) rfl rfl (by decide) (by decide) rfl ?_
    refine E_iconst (x := 1) rfl (by decide) ?_
    refine E_ic (t := 84) (b := true) rfl rfl (by decide) ?_
    refine E_aload_n rfl rfl ?_
    refine E_getfield (v := .ref 76) rfl rfl rfl (by decide) rfl ?_
    refine E_iload_n rfl rfl ?_
    refine E_iaload (x := 0) (j := 6) rfl rfl (by decide) (by decide) rfl ?_
    refine E_if (t := 102) (b := true) rfl rfl (by decide) ?_
    refine E_aload_n rfl rfl ?_
    refine E_bipush (x := (-3)) rfl (by decide) ?_
    refine E_callV (v := some (.int (-3))) (As := [.ref 65, .int (-3)]) (r0 := []) (cs2 := ((w0.set 48 (.inl [0, 0, 0, 1, 0, 0, 0, 0])).set 66 (.inl [0, 0, 0, 1, 0, 0, 0, 0]))) rfl rfl rfl (Nat.le_of_ble_eq_true rfl) rfl rfl c35_X6_no (by decide) (by simp only [List.length_set]) ?_
    exact E_iret rfl rfl, (by simp only [List.length_set]; rfl), (by simp only [List.length_set]; rfl), ((ab_szs rfl).trans ((ab_szs rfl).trans rfl)), fun _ => rfl⟩
theorem f_copy_57 (a3 a4 a5 : Int32) : p1_P 3 78 2 137 [.ref 0, .int 6, .int 6, .int a3, .int a4, .int a5] [.ref 65, .int 6, .int 6, .int a3, .int a4, .int a5] :=
  ⟨(-3), (w0.set 48 (.inl [0, 0, 0, 1, 0, 0, 0, 0])), ((w0.set 48 (.inl [0, 0, 0, 1, 0, 0, 0, 0])).set 66 (.inl [0, 0, 0, 1, 0, 0, 0, 0])), by
    refine Ef.in (md := mX5_copy) (L := [some (.ref 0), some (.int 6), some (.int 6), some (.int a3), some (.int a4), some (.int a5), none, none]) rfl (Nat.le_of_ble_eq_true rfl) rfl ?_
    refine E_iload_n rfl rfl ?_
    refine E_callS (v := some (.int 1)) (As := [.int 6]) (r0 := []) (cs2 := w0) rfl rfl rfl (Nat.le_of_ble_eq_true rfl) rfl c22_X5_isShelf (by decide) rfl ?_
    refine E_if (t := 14) (b := false) rfl rfl (by decide) ?_
    refine E_iload_n rfl rfl ?_
    refine E_callS (v := some (.int 1)) (As := [.int 6]) (r0 := []) (cs2 := w0) rfl rfl rfl (Nat.le_of_ble_eq_true rfl) rfl c22_X5_isShelf (by decide) rfl ?_
    refine E_if (t := 20) (b := true) rfl rfl (by decide) ?_
    refine E_aload_n rfl rfl ?_
    refine E_getfield (v := .ref 31) rfl rfl rfl (by decide) rfl ?_
    refine E_iload_n rfl rfl ?_
    refine E_aaload (b := 61) (j := 6) rfl rfl (by decide) (by decide) rfl ?_
    refine E_astore (L2 := [some (.ref 0), some (.int 6), some (.int 6), some (.int a3), some (.int a4), some (.int a5), some (.ref 61), none]) rfl rfl ?_
    refine E_aload_n rfl rfl ?_
    refine E_getfield (v := .ref 31) rfl rfl rfl (by decide) rfl ?_
    refine E_iload_n rfl rfl ?_
    refine E_aaload (b := 61) (j := 6) rfl rfl (by decide) (by decide) rfl ?_
    refine E_astore (L2 := [some (.ref 0), some (.int 6), some (.int 6), some (.int a3), some (.int a4), some (.int a5), some (.ref 61), some (.ref 61)]) rfl rfl ?_
    refine E_aload rfl rfl ?_
    refine E_callV (v := some (.int 0)) (As := [.ref 61]) (r0 := []) (cs2 := w0) rfl rfl rfl (Nat.le_of_ble_eq_true rfl) rfl rfl c57_X3_isOtherThanRow (by decide) rfl ?_
    refine E_if (t := 62) (b := false) rfl rfl (by decide) ?_
    refine E_aload rfl rfl ?_
    refine E_callV (v := some (.int 0)) (As := [.ref 61]) (r0 := []) (cs2 := w0) rfl rfl rfl (Nat.le_of_ble_eq_true rfl) rfl rfl c57_X3_isOtherThanRow (by decide) rfl ?_
    refine E_if (t := 62) (b := false) rfl rfl (by decide) ?_
    refine E_aload rfl rfl ?_
    refine E_aload rfl rfl ?_
    refine E_callV (v := some (.int 0)) (As := [.ref 61, .ref 61]) (r0 := []) (cs2 := w0) rfl rfl rfl (Nat.le_of_ble_eq_true rfl) rfl rfl c118_X3_isOfOtherSort (by decide) rfl ?_
    refine E_if (t := 68) (b := true) rfl rfl (by decide) ?_
    refine E_aload rfl rfl ?_
    refine E_callV (v := some (.int 1)) (As := [.ref 61]) (r0 := []) (cs2 := w0) rfl rfl rfl (Nat.le_of_ble_eq_true rfl) rfl rfl c58_X3_isEmpty (by decide) rfl ?_
    refine E_if (t := 84) (b := true) rfl rfl (by decide) ?_
    refine E_aload_n rfl rfl ?_
    refine E_iconst (x := 3) rfl (by decide) ?_
    refine E_callV (v := some (.int (-3))) (As := [.ref 0, .int 3]) (r0 := []) (cs2 := (w0.set 48 (.inl [0, 0, 0, 1, 0, 0, 0, 0]))) rfl rfl rfl (Nat.le_of_ble_eq_true rfl) rfl rfl c32_X5_refuse (by decide) (by simp only [List.length_set]) ?_
    exact E_iret rfl rfl, by
    refine Ef.in (md := mX6_copy) (L := [some (.ref 65), some (.int 6), some (.int 6), some (.int a3), some (.int a4), some (.int a5), none]) rfl (Nat.le_of_ble_eq_true rfl) rfl ?_
    refine E_aload_n rfl rfl ?_
    refine E_iload_n rfl rfl ?_
    refine E_callV (v := some (.int 1)) (As := [.ref 65, .int 6]) (r0 := []) (cs2 := (w0.set 48 (.inl [0, 0, 0, 1, 0, 0, 0, 0]))) rfl rfl rfl (Nat.le_of_ble_eq_true rfl) rfl rfl c59_X6_isShelf (by decide) rfl ?_
    refine E_if (t := 16) (b := false) rfl rfl (by decide) ?_
    refine E_aload_n rfl rfl ?_
    refine E_iload_n rfl rfl ?_
    refine E_callV (v := some (.int 1)) (As := [.ref 65, .int 6]) (r0 := []) (cs2 := (w0.set 48 (.inl [0, 0, 0, 1, 0, 0, 0, 0]))) rfl rfl rfl (Nat.le_of_ble_eq_true rfl) rfl rfl c59_X6_isShelf (by decide) rfl ?_
    refine E_if (t := 22) (b := true) rfl rfl (by decide) ?_
    refine E_aload_n rfl rfl ?_
    refine E_getfield (v := .ref 76) rfl rfl rfl (by decide) rfl ?_
    refine E_iload_n rfl rfl ?_
    refine E_iaload (x := 0) (j := 6) rfl rfl (by decide) (by decide) rfl ?_
    refine E_iconst (x := 2) rfl (by decide) ?_
    refine E_ic (t := 77) (b := false) rfl rfl (by decide) ?_
    refine E_aload_n rfl rfl ?_
    refine E_getfield (v := .ref 76) rfl rfl rfl (by decide) rfl ?_
    refine E_iload_n rfl rfl ?_
    refine E_iaload (x := 0) (j := 6) rfl rfl (by decide) (by decide) rfl ?_
    refine E_iconst (x := 2) rfl (by decide) ?_
    refine E_ic (t := 77) (b := false) rfl rfl (by decide) ?_
    refine E_aload_n rfl rfl ?_
    refine E_getfield (v := .ref 76) rfl rfl rfl (by decide) rfl ?_
    refine E_iload_n rfl rfl ?_
    refine E_iaload (x := 0) (j := 6) rfl rfl (by decide) (by decide) rfl ?_
    refine E_iconst (x := 1) rfl (by decide) ?_
    refine E_ic (t := 84) (b := true) rfl rfl (by decide) ?_
    refine E_aload_n rfl rfl ?_
    refine E_getfield (v := .ref 76) rfl rfl rfl (by decide) rfl ?_
    refine E_iload_n rfl rfl ?_
    refine E_iaload (x := 0) (j := 6) rfl rfl (by decide) (by decide) rfl ?_
    refine E_if (t := 102) (b := true) rfl rfl (by decide) ?_
    refine E_aload_n rfl rfl ?_
    refine E_bipush (x := (-3)) rfl (by decide) ?_
    refine E_callV (v := some (.int (-3))) (As := [.ref 65, .int (-3)]) (r0 := []) (cs2 := ((w0.set 48 (.inl [0, 0, 0, 1, 0, 0, 0, 0])).set 66 (.inl [0, 0, 0, 1, 0, 0, 0, 0]))) rfl rfl rfl (Nat.le_of_ble_eq_true rfl) rfl rfl c35_X6_no (by decide) (by simp only [List.length_set]) ?_
    exact E_iret rfl rfl, (by simp only [List.length_set]; rfl), (by simp only [List.length_set]; rfl), ((ab_szs rfl).trans ((ab_szs rfl).trans rfl)), fun _ => rfl⟩
theorem f_copy_58 (a3 a4 a5 : Int32) : p1_P 3 78 2 137 [.ref 0, .int 6, .int 7, .int a3, .int a4, .int a5] [.ref 65, .int 6, .int 7, .int a3, .int a4, .int a5] :=
  ⟨(-3), (w0.set 48 (.inl [0, 0, 0, 1, 0, 0, 0, 0])), ((w0.set 48 (.inl [0, 0, 0, 1, 0, 0, 0, 0])).set 66 (.inl [0, 0, 0, 1, 0, 0, 0, 0])), by
    refine Ef.in (md := mX5_copy) (L := [some (.ref 0), some (.int 6), some (.int 7), some (.int a3), some (.int a4), some (.int a5), none, none]) rfl (Nat.le_of_ble_eq_true rfl) rfl ?_
    refine E_iload_n rfl rfl ?_
    refine E_callS (v := some (.int 1)) (As := [.int 6]) (r0 := []) (cs2 := w0) rfl rfl rfl (Nat.le_of_ble_eq_true rfl) rfl c22_X5_isShelf (by decide) rfl ?_
    refine E_if (t := 14) (b := false) rfl rfl (by decide) ?_
    refine E_iload_n rfl rfl ?_
    refine E_callS (v := some (.int 1)) (As := [.int 7]) (r0 := []) (cs2 := w0) rfl rfl rfl (Nat.le_of_ble_eq_true rfl) rfl c24_X5_isShelf (by decide) rfl ?_
    refine E_if (t := 20) (b := true) rfl rfl (by decide) ?_
    refine E_aload_n rfl rfl ?_
    refine E_getfield (v := .ref 31) rfl rfl rfl (by decide) rfl ?_
    refine E_iload_n rfl rfl ?_
    refine E_aaload (b := 61) (j := 6) rfl rfl (by decide) (by decide) rfl ?_
    refine E_astore (L2 := [some (.ref 0), some (.int 6), some (.int 7), some (.int a3), some (.int a4), some (.int a5), some (.ref 61), none]) rfl rfl ?_
    refine E_aload_n rfl rfl ?_
    refine E_getfield (v := .ref 31) rfl rfl rfl (by decide) rfl ?_
    refine E_iload_n rfl rfl ?_
    refine E_aaload (b := 63) (j := 7) rfl rfl (by decide) (by decide) rfl ?_
    refine E_astore (L2 := [some (.ref 0), some (.int 6), some (.int 7), some (.int a3), some (.int a4), some (.int a5), some (.ref 61), some (.ref 63)]) rfl rfl ?_
    refine E_aload rfl rfl ?_
    refine E_callV (v := some (.int 0)) (As := [.ref 61]) (r0 := []) (cs2 := w0) rfl rfl rfl (Nat.le_of_ble_eq_true rfl) rfl rfl c57_X3_isOtherThanRow (by decide) rfl ?_
    refine E_if (t := 62) (b := false) rfl rfl (by decide) ?_
    refine E_aload rfl rfl ?_
    refine E_callV (v := some (.int 0)) (As := [.ref 63]) (r0 := []) (cs2 := w0) rfl rfl rfl (Nat.le_of_ble_eq_true rfl) rfl rfl c61_X3_isOtherThanRow (by decide) rfl ?_
    refine E_if (t := 62) (b := false) rfl rfl (by decide) ?_
    refine E_aload rfl rfl ?_
    refine E_aload rfl rfl ?_
    refine E_callV (v := some (.int 0)) (As := [.ref 61, .ref 63]) (r0 := []) (cs2 := w0) rfl rfl rfl (Nat.le_of_ble_eq_true rfl) rfl rfl c119_X3_isOfOtherSort (by decide) rfl ?_
    refine E_if (t := 68) (b := true) rfl rfl (by decide) ?_
    refine E_aload rfl rfl ?_
    refine E_callV (v := some (.int 1)) (As := [.ref 61]) (r0 := []) (cs2 := w0) rfl rfl rfl (Nat.le_of_ble_eq_true rfl) rfl rfl c58_X3_isEmpty (by decide) rfl ?_
    refine E_if (t := 84) (b := true) rfl rfl (by decide) ?_
    refine E_aload_n rfl rfl ?_
    refine E_iconst (x := 3) rfl (by decide) ?_
    refine E_callV (v := some (.int (-3))) (As := [.ref 0, .int 3]) (r0 := []) (cs2 := (w0.set 48 (.inl [0, 0, 0, 1, 0, 0, 0, 0]))) rfl rfl rfl (Nat.le_of_ble_eq_true rfl) rfl rfl c32_X5_refuse (by decide) (by simp only [List.length_set]) ?_
    exact E_iret rfl rfl, by
    refine Ef.in (md := mX6_copy) (L := [some (.ref 65), some (.int 6), some (.int 7), some (.int a3), some (.int a4), some (.int a5), none]) rfl (Nat.le_of_ble_eq_true rfl) rfl ?_
    refine E_aload_n rfl rfl ?_
    refine E_iload_n rfl rfl ?_
    refine E_callV (v := some (.int 1)) (As := [.ref 65, .int 6]) (r0 := []) (cs2 := (w0.set 48 (.inl [0, 0, 0, 1, 0, 0, 0, 0]))) rfl rfl rfl (Nat.le_of_ble_eq_true rfl) rfl rfl c59_X6_isShelf (by decide) rfl ?_
    refine E_if (t := 16) (b := false) rfl rfl (by decide) ?_
    refine E_aload_n rfl rfl ?_
    refine E_iload_n rfl rfl ?_
    refine E_callV (v := some (.int 1)) (As := [.ref 65, .int 7]) (r0 := []) (cs2 := (w0.set 48 (.inl [0, 0, 0, 1, 0, 0, 0, 0]))) rfl rfl rfl (Nat.le_of_ble_eq_true rfl) rfl rfl c63_X6_isShelf (by decide) rfl ?_
    refine E_if (t := 22) (b := true) rfl rfl (by decide) ?_
    refine E_aload_n rfl rfl ?_
    refine E_getfield (v := .ref 76) rfl rfl rfl (by decide) rfl ?_
    refine E_iload_n rfl rfl ?_
    refine E_iaload (x := 0) (j := 6) rfl rfl (by decide) (by decide) rfl ?_
    refine E_iconst (x := 2) rfl (by decide) ?_
    refine E_ic (t := 77) (b := false) rfl rfl (by decide) ?_
    refine E_aload_n rfl rfl ?_
    refine E_getfield (v := .ref 76) rfl rfl rfl (by decide) rfl ?_
    refine E_iload_n rfl rfl ?_
    refine E_iaload (x := 0) (j := 7) rfl rfl (by decide) (by decide) rfl ?_
    refine E_iconst (x := 2) rfl (by decide) ?_
    refine E_ic (t := 77) (b := false) rfl rfl (by decide) ?_
    refine E_aload_n rfl rfl ?_
    refine E_getfield (v := .ref 76) rfl rfl rfl (by decide) rfl ?_
    refine E_iload_n rfl rfl ?_
    refine E_iaload (x := 0) (j := 6) rfl rfl (by decide) (by decide) rfl ?_
    refine E_iconst (x := 1) rfl (by decide) ?_
    refine E_ic (t := 84) (b := true) rfl rfl (by decide) ?_
    refine E_aload_n rfl rfl ?_
    refine E_getfield (v := .ref 76) rfl rfl rfl (by decide) rfl ?_
    refine E_iload_n rfl rfl ?_
    refine E_iaload (x := 0) (j := 6) rfl rfl (by decide) (by decide) rfl ?_
    refine E_if (t := 102) (b := true) rfl rfl (by decide) ?_
    refine E_aload_n rfl rfl ?_
    refine E_bipush (x := (-3)) rfl (by decide) ?_
    refine E_callV (v := some (.int (-3))) (As := [.ref 65, .int (-3)]) (r0 := []) (cs2 := ((w0.set 48 (.inl [0, 0, 0, 1, 0, 0, 0, 0])).set 66 (.inl [0, 0, 0, 1, 0, 0, 0, 0]))) rfl rfl rfl (Nat.le_of_ble_eq_true rfl) rfl rfl c35_X6_no (by decide) (by simp only [List.length_set]) ?_
    exact E_iret rfl rfl, (by simp only [List.length_set]; rfl), (by simp only [List.length_set]; rfl), ((ab_szs rfl).trans ((ab_szs rfl).trans rfl)), fun _ => rfl⟩
theorem f_copy_59 (a3 a4 a5 : Int32) : p1_P 3 78 2 137 [.ref 0, .int 7, .int 0, .int a3, .int a4, .int a5] [.ref 65, .int 7, .int 0, .int a3, .int a4, .int a5] :=
  ⟨(-3), (w0.set 48 (.inl [0, 0, 0, 1, 0, 0, 0, 0])), ((w0.set 48 (.inl [0, 0, 0, 1, 0, 0, 0, 0])).set 66 (.inl [0, 0, 0, 1, 0, 0, 0, 0])), by
    refine Ef.in (md := mX5_copy) (L := [some (.ref 0), some (.int 7), some (.int 0), some (.int a3), some (.int a4), some (.int a5), none, none]) rfl (Nat.le_of_ble_eq_true rfl) rfl ?_
    refine E_iload_n rfl rfl ?_
    refine E_callS (v := some (.int 1)) (As := [.int 7]) (r0 := []) (cs2 := w0) rfl rfl rfl (Nat.le_of_ble_eq_true rfl) rfl c24_X5_isShelf (by decide) rfl ?_
    refine E_if (t := 14) (b := false) rfl rfl (by decide) ?_
    refine E_iload_n rfl rfl ?_
    refine E_callS (v := some (.int 1)) (As := [.int 0]) (r0 := []) (cs2 := w0) rfl rfl rfl (Nat.le_of_ble_eq_true rfl) rfl c10_X5_isShelf (by decide) rfl ?_
    refine E_if (t := 20) (b := true) rfl rfl (by decide) ?_
    refine E_aload_n rfl rfl ?_
    refine E_getfield (v := .ref 31) rfl rfl rfl (by decide) rfl ?_
    refine E_iload_n rfl rfl ?_
    refine E_aaload (b := 63) (j := 7) rfl rfl (by decide) (by decide) rfl ?_
    refine E_astore (L2 := [some (.ref 0), some (.int 7), some (.int 0), some (.int a3), some (.int a4), some (.int a5), some (.ref 63), none]) rfl rfl ?_
    refine E_aload_n rfl rfl ?_
    refine E_getfield (v := .ref 31) rfl rfl rfl (by decide) rfl ?_
    refine E_iload_n rfl rfl ?_
    refine E_aaload (b := 49) (j := 0) rfl rfl (by decide) (by decide) rfl ?_
    refine E_astore (L2 := [some (.ref 0), some (.int 7), some (.int 0), some (.int a3), some (.int a4), some (.int a5), some (.ref 63), some (.ref 49)]) rfl rfl ?_
    refine E_aload rfl rfl ?_
    refine E_callV (v := some (.int 0)) (As := [.ref 63]) (r0 := []) (cs2 := w0) rfl rfl rfl (Nat.le_of_ble_eq_true rfl) rfl rfl c61_X3_isOtherThanRow (by decide) rfl ?_
    refine E_if (t := 62) (b := false) rfl rfl (by decide) ?_
    refine E_aload rfl rfl ?_
    refine E_callV (v := some (.int 0)) (As := [.ref 49]) (r0 := []) (cs2 := w0) rfl rfl rfl (Nat.le_of_ble_eq_true rfl) rfl rfl c30_X3_isOtherThanRow (by decide) rfl ?_
    refine E_if (t := 62) (b := false) rfl rfl (by decide) ?_
    refine E_aload rfl rfl ?_
    refine E_aload rfl rfl ?_
    refine E_callV (v := some (.int 0)) (As := [.ref 63, .ref 49]) (r0 := []) (cs2 := w0) rfl rfl rfl (Nat.le_of_ble_eq_true rfl) rfl rfl c120_X3_isOfOtherSort (by decide) rfl ?_
    refine E_if (t := 68) (b := true) rfl rfl (by decide) ?_
    refine E_aload rfl rfl ?_
    refine E_callV (v := some (.int 1)) (As := [.ref 63]) (r0 := []) (cs2 := w0) rfl rfl rfl (Nat.le_of_ble_eq_true rfl) rfl rfl c62_X3_isEmpty (by decide) rfl ?_
    refine E_if (t := 84) (b := true) rfl rfl (by decide) ?_
    refine E_aload_n rfl rfl ?_
    refine E_iconst (x := 3) rfl (by decide) ?_
    refine E_callV (v := some (.int (-3))) (As := [.ref 0, .int 3]) (r0 := []) (cs2 := (w0.set 48 (.inl [0, 0, 0, 1, 0, 0, 0, 0]))) rfl rfl rfl (Nat.le_of_ble_eq_true rfl) rfl rfl c32_X5_refuse (by decide) (by simp only [List.length_set]) ?_
    exact E_iret rfl rfl, by
    refine Ef.in (md := mX6_copy) (L := [some (.ref 65), some (.int 7), some (.int 0), some (.int a3), some (.int a4), some (.int a5), none]) rfl (Nat.le_of_ble_eq_true rfl) rfl ?_
    refine E_aload_n rfl rfl ?_
    refine E_iload_n rfl rfl ?_
    refine E_callV (v := some (.int 1)) (As := [.ref 65, .int 7]) (r0 := []) (cs2 := (w0.set 48 (.inl [0, 0, 0, 1, 0, 0, 0, 0]))) rfl rfl rfl (Nat.le_of_ble_eq_true rfl) rfl rfl c63_X6_isShelf (by decide) rfl ?_
    refine E_if (t := 16) (b := false) rfl rfl (by decide) ?_
    refine E_aload_n rfl rfl ?_
    refine E_iload_n rfl rfl ?_
    refine E_callV (v := some (.int 1)) (As := [.ref 65, .int 0]) (r0 := []) (cs2 := (w0.set 48 (.inl [0, 0, 0, 1, 0, 0, 0, 0]))) rfl rfl rfl (Nat.le_of_ble_eq_true rfl) rfl rfl c34_X6_isShelf (by decide) rfl ?_
    refine E_if (t := 22) (b := true) rfl rfl (by decide) ?_
    refine E_aload_n rfl rfl ?_
    refine E_getfield (v := .ref 76) rfl rfl rfl (by decide) rfl ?_
    refine E_iload_n rfl rfl ?_
    refine E_iaload (x := 0) (j := 7) rfl rfl (by decide) (by decide) rfl ?_
    refine E_iconst (x := 2) rfl (by decide) ?_
    refine E_ic (t := 77) (b := false) rfl rfl (by decide) ?_
    refine E_aload_n rfl rfl ?_
    refine E_getfield (v := .ref 76) rfl rfl rfl (by decide) rfl ?_
    refine E_iload_n rfl rfl ?_
    refine E_iaload (x := 0) (j := 0) rfl rfl (by decide) (by decide) rfl ?_
    refine E_iconst (x := 2) rfl (by decide) ?_
    refine E_ic (t := 77) (b := false) rfl rfl (by decide) ?_
    refine E_aload_n rfl rfl ?_
    refine E_getfield (v := .ref 76) rfl rfl rfl (by decide) rfl ?_
    refine E_iload_n rfl rfl ?_
    refine E_iaload (x := 0) (j := 7) rfl rfl (by decide) (by decide) rfl ?_
    refine E_iconst (x := 1) rfl (by decide) ?_
    refine E_ic (t := 84) (b := true) rfl rfl (by decide) ?_
    refine E_aload_n rfl rfl ?_
    refine E_getfield (v := .ref 76) rfl rfl rfl (by decide) rfl ?_
    refine E_iload_n rfl rfl ?_
    refine E_iaload (x := 0) (j := 7) rfl rfl (by decide) (by decide) rfl ?_
    refine E_if (t := 102) (b := true) rfl rfl (by decide) ?_
    refine E_aload_n rfl rfl ?_
    refine E_bipush (x := (-3)) rfl (by decide) ?_
    refine E_callV (v := some (.int (-3))) (As := [.ref 65, .int (-3)]) (r0 := []) (cs2 := ((w0.set 48 (.inl [0, 0, 0, 1, 0, 0, 0, 0])).set 66 (.inl [0, 0, 0, 1, 0, 0, 0, 0]))) rfl rfl rfl (Nat.le_of_ble_eq_true rfl) rfl rfl c35_X6_no (by decide) (by simp only [List.length_set]) ?_
    exact E_iret rfl rfl, (by simp only [List.length_set]; rfl), (by simp only [List.length_set]; rfl), ((ab_szs rfl).trans ((ab_szs rfl).trans rfl)), fun _ => rfl⟩
theorem f_copy_60 (a3 a4 a5 : Int32) : p1_P 3 78 2 137 [.ref 0, .int 7, .int 1, .int a3, .int a4, .int a5] [.ref 65, .int 7, .int 1, .int a3, .int a4, .int a5] :=
  ⟨(-3), (w0.set 48 (.inl [0, 0, 0, 1, 0, 0, 0, 0])), ((w0.set 48 (.inl [0, 0, 0, 1, 0, 0, 0, 0])).set 66 (.inl [0, 0, 0, 1, 0, 0, 0, 0])), by
    refine Ef.in (md := mX5_copy) (L := [some (.ref 0), some (.int 7), some (.int 1), some (.int a3), some (.int a4), some (.int a5), none, none]) rfl (Nat.le_of_ble_eq_true rfl) rfl ?_
    refine E_iload_n rfl rfl ?_
    refine E_callS (v := some (.int 1)) (As := [.int 7]) (r0 := []) (cs2 := w0) rfl rfl rfl (Nat.le_of_ble_eq_true rfl) rfl c24_X5_isShelf (by decide) rfl ?_
    refine E_if (t := 14) (b := false) rfl rfl (by decide) ?_
    refine E_iload_n rfl rfl ?_
    refine E_callS (v := some (.int 1)) (As := [.int 1]) (r0 := []) (cs2 := w0) rfl rfl rfl (Nat.le_of_ble_eq_true rfl) rfl c12_X5_isShelf (by decide) rfl ?_
    refine E_if (t := 20) (b := true) rfl rfl (by decide) ?_
    refine E_aload_n rfl rfl ?_
    refine E_getfield (v := .ref 31) rfl rfl rfl (by decide) rfl ?_
    refine E_iload_n rfl rfl ?_
    refine E_aaload (b := 63) (j := 7) rfl rfl (by decide) (by decide) rfl ?_
    refine E_astore (L2 := [some (.ref 0), some (.int 7), some (.int 1), some (.int a3), some (.int a4), some (.int a5), some (.ref 63), none]) rfl rfl ?_
    refine E_aload_n rfl rfl ?_
    refine E_getfield (v := .ref 31) rfl rfl rfl (by decide) rfl ?_
    refine E_iload_n rfl rfl ?_
    refine E_aaload (b := 51) (j := 1) rfl rfl (by decide) (by decide) rfl ?_
    refine E_astore (L2 := [some (.ref 0), some (.int 7), some (.int 1), some (.int a3), some (.int a4), some (.int a5), some (.ref 63), some (.ref 51)]) rfl rfl ?_
    refine E_aload rfl rfl ?_
    refine E_callV (v := some (.int 0)) (As := [.ref 63]) (r0 := []) (cs2 := w0) rfl rfl rfl (Nat.le_of_ble_eq_true rfl) rfl rfl c61_X3_isOtherThanRow (by decide) rfl ?_
    refine E_if (t := 62) (b := false) rfl rfl (by decide) ?_
    refine E_aload rfl rfl ?_
    refine E_callV (v := some (.int 0)) (As := [.ref 51]) (r0 := []) (cs2 := w0) rfl rfl rfl (Nat.le_of_ble_eq_true rfl) rfl rfl c37_X3_isOtherThanRow (by decide) rfl ?_
    refine E_if (t := 62) (b := false) rfl rfl (by decide) ?_
    refine E_aload rfl rfl ?_
    refine E_aload rfl rfl ?_
    refine E_callV (v := some (.int 0)) (As := [.ref 63, .ref 51]) (r0 := []) (cs2 := w0) rfl rfl rfl (Nat.le_of_ble_eq_true rfl) rfl rfl c121_X3_isOfOtherSort (by decide) rfl ?_
    refine E_if (t := 68) (b := true) rfl rfl (by decide) ?_
    refine E_aload rfl rfl ?_
    refine E_callV (v := some (.int 1)) (As := [.ref 63]) (r0 := []) (cs2 := w0) rfl rfl rfl (Nat.le_of_ble_eq_true rfl) rfl rfl c62_X3_isEmpty (by decide) rfl ?_
    refine E_if (t := 84) (b := true) rfl rfl (by decide) ?_
    refine E_aload_n rfl rfl ?_
    refine E_iconst (x := 3) rfl (by decide) ?_
    refine E_callV (v := some (.int (-3))) (As := [.ref 0, .int 3]) (r0 := []) (cs2 := (w0.set 48 (.inl [0, 0, 0, 1, 0, 0, 0, 0]))) rfl rfl rfl (Nat.le_of_ble_eq_true rfl) rfl rfl c32_X5_refuse (by decide) (by simp only [List.length_set]) ?_
    exact E_iret rfl rfl, by
    refine Ef.in (md := mX6_copy) (L := [some (.ref 65), some (.int 7), some (.int 1), some (.int a3), some (.int a4), some (.int a5), none]) rfl (Nat.le_of_ble_eq_true rfl) rfl ?_
    refine E_aload_n rfl rfl ?_
    refine E_iload_n rfl rfl ?_
    refine E_callV (v := some (.int 1)) (As := [.ref 65, .int 7]) (r0 := []) (cs2 := (w0.set 48 (.inl [0, 0, 0, 1, 0, 0, 0, 0]))) rfl rfl rfl (Nat.le_of_ble_eq_true rfl) rfl rfl c63_X6_isShelf (by decide) rfl ?_
    refine E_if (t := 16) (b := false) rfl rfl (by decide) ?_
    refine E_aload_n rfl rfl ?_
    refine E_iload_n rfl rfl ?_
    refine E_callV (v := some (.int 1)) (As := [.ref 65, .int 1]) (r0 := []) (cs2 := (w0.set 48 (.inl [0, 0, 0, 1, 0, 0, 0, 0]))) rfl rfl rfl (Nat.le_of_ble_eq_true rfl) rfl rfl c39_X6_isShelf (by decide) rfl ?_
    refine E_if (t := 22) (b := true) rfl rfl (by decide) ?_
    refine E_aload_n rfl rfl ?_
    refine E_getfield (v := .ref 76) rfl rfl rfl (by decide) rfl ?_
    refine E_iload_n rfl rfl ?_
    refine E_iaload (x := 0) (j := 7) rfl rfl (by decide) (by decide) rfl ?_
    refine E_iconst (x := 2) rfl (by decide) ?_
    refine E_ic (t := 77) (b := false) rfl rfl (by decide) ?_
    refine E_aload_n rfl rfl ?_
    refine E_getfield (v := .ref 76) rfl rfl rfl (by decide) rfl ?_
    refine E_iload_n rfl rfl ?_
    refine E_iaload (x := 0) (j := 1) rfl rfl (by decide) (by decide) rfl ?_
    refine E_iconst (x := 2) rfl (by decide) ?_
    refine E_ic (t := 77) (b := false) rfl rfl (by decide) ?_
    refine E_aload_n rfl rfl ?_
    refine E_getfield (v := .ref 76) rfl rfl rfl (by decide) rfl ?_
    refine E_iload_n rfl rfl ?_
    refine E_iaload (x := 0) (j := 7) rfl rfl (by decide) (by decide) rfl ?_
    refine E_iconst (x := 1) rfl (by decide) ?_
    refine E_ic (t := 84) (b := true) rfl rfl (by decide) ?_
    refine E_aload_n rfl rfl ?_
    refine E_getfield (v := .ref 76) rfl rfl rfl (by decide) rfl ?_
    refine E_iload_n rfl rfl ?_
    refine E_iaload (x := 0) (j := 7) rfl rfl (by decide) (by decide) rfl ?_
    refine E_if (t := 102) (b := true) rfl rfl (by decide) ?_
    refine E_aload_n rfl rfl ?_
    refine E_bipush (x := (-3)) rfl (by decide) ?_
    refine E_callV (v := some (.int (-3))) (As := [.ref 65, .int (-3)]) (r0 := []) (cs2 := ((w0.set 48 (.inl [0, 0, 0, 1, 0, 0, 0, 0])).set 66 (.inl [0, 0, 0, 1, 0, 0, 0, 0]))) rfl rfl rfl (Nat.le_of_ble_eq_true rfl) rfl rfl c35_X6_no (by decide) (by simp only [List.length_set]) ?_
    exact E_iret rfl rfl, (by simp only [List.length_set]; rfl), (by simp only [List.length_set]; rfl), ((ab_szs rfl).trans ((ab_szs rfl).trans rfl)), fun _ => rfl⟩
theorem f_copy_61 (a3 a4 a5 : Int32) : p1_P 3 78 2 137 [.ref 0, .int 7, .int 2, .int a3, .int a4, .int a5] [.ref 65, .int 7, .int 2, .int a3, .int a4, .int a5] :=
  ⟨(-3), (w0.set 48 (.inl [0, 0, 0, 1, 0, 0, 0, 0])), ((w0.set 48 (.inl [0, 0, 0, 1, 0, 0, 0, 0])).set 66 (.inl [0, 0, 0, 1, 0, 0, 0, 0])), by
    refine Ef.in (md := mX5_copy) (L := [some (.ref 0), some (.int 7), some (.int 2), some (.int a3), some (.int a4), some (.int a5), none, none]) rfl (Nat.le_of_ble_eq_true rfl) rfl ?_
    refine E_iload_n rfl rfl ?_
    refine E_callS (v := some (.int 1)) (As := [.int 7]) (r0 := []) (cs2 := w0) rfl rfl rfl (Nat.le_of_ble_eq_true rfl) rfl c24_X5_isShelf (by decide) rfl ?_
    refine E_if (t := 14) (b := false) rfl rfl (by decide) ?_
    refine E_iload_n rfl rfl ?_
    refine E_callS (v := some (.int 1)) (As := [.int 2]) (r0 := []) (cs2 := w0) rfl rfl rfl (Nat.le_of_ble_eq_true rfl) rfl c14_X5_isShelf (by decide) rfl ?_
    refine E_if (t := 20) (b := true) rfl rfl (by decide) ?_
    refine E_aload_n rfl rfl ?_
    refine E_getfield (v := .ref 31) rfl rfl rfl (by decide) rfl ?_
    refine E_iload_n rfl rfl ?_
    refine E_aaload (b := 63) (j := 7) rfl rfl (by decide) (by decide) rfl ?_
    refine E_astore (L2 := [some (.ref 0), some (.int 7), some (.int 2), some (.int a3), some (.int a4), some (.int a5), some (.ref 63), none]) rfl rfl ?_
    refine E_aload_n rfl rfl ?_
    refine E_getfield (v := .ref 31) rfl rfl rfl (by decide) rfl ?_
    refine E_iload_n rfl rfl ?_
    refine E_aaload (b := 53) (j := 2) rfl rfl (by decide) (by decide) rfl ?_
    refine E_astore (L2 := [some (.ref 0), some (.int 7), some (.int 2), some (.int a3), some (.int a4), some (.int a5), some (.ref 63), some (.ref 53)]) rfl rfl ?_
    refine E_aload rfl rfl ?_
    refine E_callV (v := some (.int 0)) (As := [.ref 63]) (r0 := []) (cs2 := w0) rfl rfl rfl (Nat.le_of_ble_eq_true rfl) rfl rfl c61_X3_isOtherThanRow (by decide) rfl ?_
    refine E_if (t := 62) (b := false) rfl rfl (by decide) ?_
    refine E_aload rfl rfl ?_
    refine E_callV (v := some (.int 0)) (As := [.ref 53]) (r0 := []) (cs2 := w0) rfl rfl rfl (Nat.le_of_ble_eq_true rfl) rfl rfl c41_X3_isOtherThanRow (by decide) rfl ?_
    refine E_if (t := 62) (b := false) rfl rfl (by decide) ?_
    refine E_aload rfl rfl ?_
    refine E_aload rfl rfl ?_
    refine E_callV (v := some (.int 0)) (As := [.ref 63, .ref 53]) (r0 := []) (cs2 := w0) rfl rfl rfl (Nat.le_of_ble_eq_true rfl) rfl rfl c122_X3_isOfOtherSort (by decide) rfl ?_
    refine E_if (t := 68) (b := true) rfl rfl (by decide) ?_
    refine E_aload rfl rfl ?_
    refine E_callV (v := some (.int 1)) (As := [.ref 63]) (r0 := []) (cs2 := w0) rfl rfl rfl (Nat.le_of_ble_eq_true rfl) rfl rfl c62_X3_isEmpty (by decide) rfl ?_
    refine E_if (t := 84) (b := true) rfl rfl (by decide) ?_
    refine E_aload_n rfl rfl ?_
    refine E_iconst (x := 3) rfl (by decide) ?_
    refine E_callV (v := some (.int (-3))) (As := [.ref 0, .int 3]) (r0 := []) (cs2 := (w0.set 48 (.inl [0, 0, 0, 1, 0, 0, 0, 0]))) rfl rfl rfl (Nat.le_of_ble_eq_true rfl) rfl rfl c32_X5_refuse (by decide) (by simp only [List.length_set]) ?_
    exact E_iret rfl rfl, by
    refine Ef.in (md := mX6_copy) (L := [some (.ref 65), some (.int 7), some (.int 2), some (.int a3), some (.int a4), some (.int a5), none]) rfl (Nat.le_of_ble_eq_true rfl) rfl ?_
    refine E_aload_n rfl rfl ?_
    refine E_iload_n rfl rfl ?_
    refine E_callV (v := some (.int 1)) (As := [.ref 65, .int 7]) (r0 := []) (cs2 := (w0.set 48 (.inl [0, 0, 0, 1, 0, 0, 0, 0]))) rfl rfl rfl (Nat.le_of_ble_eq_true rfl) rfl rfl c63_X6_isShelf (by decide) rfl ?_
    refine E_if (t := 16) (b := false) rfl rfl (by decide) ?_
    refine E_aload_n rfl rfl ?_
    refine E_iload_n rfl rfl ?_
    refine E_callV (v := some (.int 1)) (As := [.ref 65, .int 2]) (r0 := []) (cs2 := (w0.set 48 (.inl [0, 0, 0, 1, 0, 0, 0, 0]))) rfl rfl rfl (Nat.le_of_ble_eq_true rfl) rfl rfl c43_X6_isShelf (by decide) rfl ?_
    refine E_if (t := 22) (b := true) rfl rfl (by decide) ?_
    refine E_aload_n rfl rfl ?_
    refine E_getfield (v := .ref 76) rfl rfl rfl (by decide) rfl ?_
    refine E_iload_n rfl rfl ?_
    refine E_iaload (x := 0) (j := 7) rfl rfl (by decide) (by decide) rfl ?_
    refine E_iconst (x := 2) rfl (by decide) ?_
    refine E_ic (t := 77) (b := false) rfl rfl (by decide) ?_
    refine E_aload_n rfl rfl ?_
    refine E_getfield (v := .ref 76) rfl rfl rfl (by decide) rfl ?_
    refine E_iload_n rfl rfl ?_
    refine E_iaload (x := 0) (j := 2) rfl rfl (by decide) (by decide) rfl ?_
    refine E_iconst (x := 2) rfl (by decide) ?_
    refine E_ic (t := 77) (b := false) rfl rfl (by decide) ?_
    refine E_aload_n rfl rfl ?_
    refine E_getfield (v := .ref 76) rfl rfl rfl (by decide) rfl ?_
    refine E_iload_n rfl rfl ?_
    refine E_iaload (x := 0) (j := 7) rfl rfl (by decide) (by decide) rfl ?_
    refine E_iconst (x := 1) rfl (by decide) ?_
    refine E_ic (t := 84) (b := true) rfl rfl (by decide) ?_
    refine E_aload_n rfl rfl ?_
    refine E_getfield (v := .ref 76) rfl rfl rfl (by decide) rfl ?_
    refine E_iload_n rfl rfl ?_
    refine E_iaload (x := 0) (j := 7) rfl rfl (by decide) (by decide) rfl ?_
    refine E_if (t := 102) (b := true) rfl rfl (by decide) ?_
    refine E_aload_n rfl rfl ?_
    refine E_bipush (x := (-3)) rfl (by decide) ?_
    refine E_callV (v := some (.int (-3))) (As := [.ref 65, .int (-3)]) (r0 := []) (cs2 := ((w0.set 48 (.inl [0, 0, 0, 1, 0, 0, 0, 0])).set 66 (.inl [0, 0, 0, 1, 0, 0, 0, 0]))) rfl rfl rfl (Nat.le_of_ble_eq_true rfl) rfl rfl c35_X6_no (by decide) (by simp only [List.length_set]) ?_
    exact E_iret rfl rfl, (by simp only [List.length_set]; rfl), (by simp only [List.length_set]; rfl), ((ab_szs rfl).trans ((ab_szs rfl).trans rfl)), fun _ => rfl⟩
theorem f_copy_62 (a3 a4 a5 : Int32) : p1_P 3 78 2 137 [.ref 0, .int 7, .int 3, .int a3, .int a4, .int a5] [.ref 65, .int 7, .int 3, .int a3, .int a4, .int a5] :=
  ⟨(-3), (w0.set 48 (.inl [0, 0, 0, 1, 0, 0, 0, 0])), ((w0.set 48 (.inl [0, 0, 0, 1, 0, 0, 0, 0])).set 66 (.inl [0, 0, 0, 1, 0, 0, 0, 0])), by
    refine Ef.in (md := mX5_copy) (L := [some (.ref 0), some (.int 7), some (.int 3), some (.int a3), some (.int a4), some (.int a5), none, none]) rfl (Nat.le_of_ble_eq_true rfl) rfl ?_
    refine E_iload_n rfl rfl ?_
    refine E_callS (v := some (.int 1)) (As := [.int 7]) (r0 := []) (cs2 := w0) rfl rfl rfl (Nat.le_of_ble_eq_true rfl) rfl c24_X5_isShelf (by decide) rfl ?_
    refine E_if (t := 14) (b := false) rfl rfl (by decide) ?_
    refine E_iload_n rfl rfl ?_
    refine E_callS (v := some (.int 1)) (As := [.int 3]) (r0 := []) (cs2 := w0) rfl rfl rfl (Nat.le_of_ble_eq_true rfl) rfl c16_X5_isShelf (by decide) rfl ?_
    refine E_if (t := 20) (b := true) rfl rfl (by decide) ?_
    refine E_aload_n rfl rfl ?_
    refine E_getfield (v := .ref 31) rfl rfl rfl (by decide) rfl ?_
    refine E_iload_n rfl rfl ?_
    refine E_aaload (b := 63) (j := 7) rfl rfl (by decide) (by decide) rfl ?_
    refine E_astore (L2 := [some (.ref 0), some (.int 7), some (.int 3), some (.int a3), some (.int a4), some (.int a5), some (.ref 63), none]) rfl rfl ?_
    refine E_aload_n rfl rfl ?_
    refine E_getfield (v := .ref 31) rfl rfl rfl (by decide) rfl ?_
    refine E_iload_n rfl rfl ?_
    refine E_aaload (b := 55) (j := 3) rfl rfl (by decide) (by decide) rfl ?_
    refine E_astore (L2 := [some (.ref 0), some (.int 7), some (.int 3), some (.int a3), some (.int a4), some (.int a5), some (.ref 63), some (.ref 55)]) rfl rfl ?_
    refine E_aload rfl rfl ?_
    refine E_callV (v := some (.int 0)) (As := [.ref 63]) (r0 := []) (cs2 := w0) rfl rfl rfl (Nat.le_of_ble_eq_true rfl) rfl rfl c61_X3_isOtherThanRow (by decide) rfl ?_
    refine E_if (t := 62) (b := false) rfl rfl (by decide) ?_
    refine E_aload rfl rfl ?_
    refine E_callV (v := some (.int 0)) (As := [.ref 55]) (r0 := []) (cs2 := w0) rfl rfl rfl (Nat.le_of_ble_eq_true rfl) rfl rfl c45_X3_isOtherThanRow (by decide) rfl ?_
    refine E_if (t := 62) (b := false) rfl rfl (by decide) ?_
    refine E_aload rfl rfl ?_
    refine E_aload rfl rfl ?_
    refine E_callV (v := some (.int 0)) (As := [.ref 63, .ref 55]) (r0 := []) (cs2 := w0) rfl rfl rfl (Nat.le_of_ble_eq_true rfl) rfl rfl c123_X3_isOfOtherSort (by decide) rfl ?_
    refine E_if (t := 68) (b := true) rfl rfl (by decide) ?_
    refine E_aload rfl rfl ?_
    refine E_callV (v := some (.int 1)) (As := [.ref 63]) (r0 := []) (cs2 := w0) rfl rfl rfl (Nat.le_of_ble_eq_true rfl) rfl rfl c62_X3_isEmpty (by decide) rfl ?_
    refine E_if (t := 84) (b := true) rfl rfl (by decide) ?_
    refine E_aload_n rfl rfl ?_
    refine E_iconst (x := 3) rfl (by decide) ?_
    refine E_callV (v := some (.int (-3))) (As := [.ref 0, .int 3]) (r0 := []) (cs2 := (w0.set 48 (.inl [0, 0, 0, 1, 0, 0, 0, 0]))) rfl rfl rfl (Nat.le_of_ble_eq_true rfl) rfl rfl c32_X5_refuse (by decide) (by simp only [List.length_set]) ?_
    exact E_iret rfl rfl, by
    refine Ef.in (md := mX6_copy) (L := [some (.ref 65), some (.int 7), some (.int 3), some (.int a3), some (.int a4), some (.int a5), none]) rfl (Nat.le_of_ble_eq_true rfl) rfl ?_
    refine E_aload_n rfl rfl ?_
    refine E_iload_n rfl rfl ?_
    refine E_callV (v := some (.int 1)) (As := [.ref 65, .int 7]) (r0 := []) (cs2 := (w0.set 48 (.inl [0, 0, 0, 1, 0, 0, 0, 0]))) rfl rfl rfl (Nat.le_of_ble_eq_true rfl) rfl rfl c63_X6_isShelf (by decide) rfl ?_
    refine E_if (t := 16) (b := false) rfl rfl (by decide) ?_
    refine E_aload_n rfl rfl ?_
    refine E_iload_n rfl rfl ?_
    refine E_callV (v := some (.int 1)) (As := [.ref 65, .int 3]) (r0 := []) (cs2 := (w0.set 48 (.inl [0, 0, 0, 1, 0, 0, 0, 0]))) rfl rfl rfl (Nat.le_of_ble_eq_true rfl) rfl rfl c47_X6_isShelf (by decide) rfl ?_
    refine E_if (t := 22) (b := true) rfl rfl (by decide) ?_
    refine E_aload_n rfl rfl ?_
    refine E_getfield (v := .ref 76) rfl rfl rfl (by decide) rfl ?_
    refine E_iload_n rfl rfl ?_
    refine E_iaload (x := 0) (j := 7) rfl rfl (by decide) (by decide) rfl ?_
    refine E_iconst (x := 2) rfl (by decide) ?_
    refine E_ic (t := 77) (b := false) rfl rfl (by decide) ?_
    refine E_aload_n rfl rfl ?_
    refine E_getfield (v := .ref 76) rfl rfl rfl (by decide) rfl ?_
    refine E_iload_n rfl rfl ?_
    refine E_iaload (x := 0) (j := 3) rfl rfl (by decide) (by decide) rfl ?_
    refine E_iconst (x := 2) rfl (by decide) ?_
    refine E_ic (t := 77) (b := false) rfl rfl (by decide) ?_
    refine E_aload_n rfl rfl ?_
    refine E_getfield (v := .ref 76) rfl rfl rfl (by decide) rfl ?_
    refine E_iload_n rfl rfl ?_
    refine E_iaload (x := 0) (j := 7) rfl rfl (by decide) (by decide) rfl ?_
    refine E_iconst (x := 1) rfl (by decide) ?_
    refine E_ic (t := 84) (b := true) rfl rfl (by decide) ?_
    refine E_aload_n rfl rfl ?_
    refine E_getfield (v := .ref 76) rfl rfl rfl (by decide) rfl ?_
    refine E_iload_n rfl rfl ?_
    refine E_iaload (x := 0) (j := 7) rfl rfl (by decide) (by decide) rfl ?_
    refine E_if (t := 102) (b := true) rfl rfl (by decide) ?_
    refine E_aload_n rfl rfl ?_
    refine E_bipush (x := (-3)) rfl (by decide) ?_
    refine E_callV (v := some (.int (-3))) (As := [.ref 65, .int (-3)]) (r0 := []) (cs2 := ((w0.set 48 (.inl [0, 0, 0, 1, 0, 0, 0, 0])).set 66 (.inl [0, 0, 0, 1, 0, 0, 0, 0]))) rfl rfl rfl (Nat.le_of_ble_eq_true rfl) rfl rfl c35_X6_no (by decide) (by simp only [List.length_set]) ?_
    exact E_iret rfl rfl, (by simp only [List.length_set]; rfl), (by simp only [List.length_set]; rfl), ((ab_szs rfl).trans ((ab_szs rfl).trans rfl)), fun _ => rfl⟩
theorem f_copy_63 (a3 a4 a5 : Int32) : p1_P 3 78 2 137 [.ref 0, .int 7, .int 4, .int a3, .int a4, .int a5] [.ref 65, .int 7, .int 4, .int a3, .int a4, .int a5] :=
  ⟨(-3), (w0.set 48 (.inl [0, 0, 0, 1, 0, 0, 0, 0])), ((w0.set 48 (.inl [0, 0, 0, 1, 0, 0, 0, 0])).set 66 (.inl [0, 0, 0, 1, 0, 0, 0, 0])), by
    refine Ef.in (md := mX5_copy) (L := [some (.ref 0), some (.int 7), some (.int 4), some (.int a3), some (.int a4), some (.int a5), none, none]) rfl (Nat.le_of_ble_eq_true rfl) rfl ?_
    refine E_iload_n rfl rfl ?_
    refine E_callS (v := some (.int 1)) (As := [.int 7]) (r0 := []) (cs2 := w0) rfl rfl rfl (Nat.le_of_ble_eq_true rfl) rfl c24_X5_isShelf (by decide) rfl ?_
    refine E_if (t := 14) (b := false) rfl rfl (by decide) ?_
    refine E_iload_n rfl rfl ?_
    refine E_callS (v := some (.int 1)) (As := [.int 4]) (r0 := []) (cs2 := w0) rfl rfl rfl (Nat.le_of_ble_eq_true rfl) rfl c18_X5_isShelf (by decide) rfl ?_
    refine E_if (t := 20) (b := true) rfl rfl (by decide) ?_
    refine E_aload_n rfl rfl ?_
    refine E_getfield (v := .ref 31) rfl rfl rfl (by decide) rfl ?_
    refine E_iload_n rfl rfl ?_
    refine E_aaload (b := 63) (j := 7) rfl rfl (by decide) (by decide) rfl ?_
    refine E_astore (L2 := [some (.ref 0), some (.int 7), some (.int 4), some (.int a3), some (.int a4), some (.int a5), some (.ref 63), none]) rfl rfl ?_
    refine E_aload_n rfl rfl ?_
    refine E_getfield (v := .ref 31) rfl rfl rfl (by decide) rfl ?_
    refine E_iload_n rfl rfl ?_
    refine E_aaload (b := 57) (j := 4) rfl rfl (by decide) (by decide) rfl ?_
    refine E_astore (L2 := [some (.ref 0), some (.int 7), some (.int 4), some (.int a3), some (.int a4), some (.int a5), some (.ref 63), some (.ref 57)]) rfl rfl ?_
    refine E_aload rfl rfl ?_
    refine E_callV (v := some (.int 0)) (As := [.ref 63]) (r0 := []) (cs2 := w0) rfl rfl rfl (Nat.le_of_ble_eq_true rfl) rfl rfl c61_X3_isOtherThanRow (by decide) rfl ?_
    refine E_if (t := 62) (b := false) rfl rfl (by decide) ?_
    refine E_aload rfl rfl ?_
    refine E_callV (v := some (.int 0)) (As := [.ref 57]) (r0 := []) (cs2 := w0) rfl rfl rfl (Nat.le_of_ble_eq_true rfl) rfl rfl c49_X3_isOtherThanRow (by decide) rfl ?_
    refine E_if (t := 62) (b := false) rfl rfl (by decide) ?_
    refine E_aload rfl rfl ?_
    refine E_aload rfl rfl ?_
    refine E_callV (v := some (.int 0)) (As := [.ref 63, .ref 57]) (r0 := []) (cs2 := w0) rfl rfl rfl (Nat.le_of_ble_eq_true rfl) rfl rfl c124_X3_isOfOtherSort (by decide) rfl ?_
    refine E_if (t := 68) (b := true) rfl rfl (by decide) ?_
    refine E_aload rfl rfl ?_
    refine E_callV (v := some (.int 1)) (As := [.ref 63]) (r0 := []) (cs2 := w0) rfl rfl rfl (Nat.le_of_ble_eq_true rfl) rfl rfl c62_X3_isEmpty (by decide) rfl ?_
    refine E_if (t := 84) (b := true) rfl rfl (by decide) ?_
    refine E_aload_n rfl rfl ?_
    refine E_iconst (x := 3) rfl (by decide) ?_
    refine E_callV (v := some (.int (-3))) (As := [.ref 0, .int 3]) (r0 := []) (cs2 := (w0.set 48 (.inl [0, 0, 0, 1, 0, 0, 0, 0]))) rfl rfl rfl (Nat.le_of_ble_eq_true rfl) rfl rfl c32_X5_refuse (by decide) (by simp only [List.length_set]) ?_
    exact E_iret rfl rfl, by
    refine Ef.in (md := mX6_copy) (L := [some (.ref 65), some (.int 7), some (.int 4), some (.int a3), some (.int a4), some (.int a5), none]) rfl (Nat.le_of_ble_eq_true rfl) rfl ?_
    refine E_aload_n rfl rfl ?_
    refine E_iload_n rfl rfl ?_
    refine E_callV (v := some (.int 1)) (As := [.ref 65, .int 7]) (r0 := []) (cs2 := (w0.set 48 (.inl [0, 0, 0, 1, 0, 0, 0, 0]))) rfl rfl rfl (Nat.le_of_ble_eq_true rfl) rfl rfl c63_X6_isShelf (by decide) rfl ?_
    refine E_if (t := 16) (b := false) rfl rfl (by decide) ?_
    refine E_aload_n rfl rfl ?_
    refine E_iload_n rfl rfl ?_
    refine E_callV (v := some (.int 1)) (As := [.ref 65, .int 4]) (r0 := []) (cs2 := (w0.set 48 (.inl [0, 0, 0, 1, 0, 0, 0, 0]))) rfl rfl rfl (Nat.le_of_ble_eq_true rfl) rfl rfl c51_X6_isShelf (by decide) rfl ?_
    refine E_if (t := 22) (b := true) rfl rfl (by decide) ?_
    refine E_aload_n rfl rfl ?_
    refine E_getfield (v := .ref 76) rfl rfl rfl (by decide) rfl ?_
    refine E_iload_n rfl rfl ?_
    refine E_iaload (x := 0) (j := 7) rfl rfl (by decide) (by decide) rfl ?_
    refine E_iconst (x := 2) rfl (by decide) ?_
    refine E_ic (t := 77) (b := false) rfl rfl (by decide) ?_
    refine E_aload_n rfl rfl ?_
    refine E_getfield (v := .ref 76) rfl rfl rfl (by decide) rfl ?_
    refine E_iload_n rfl rfl ?_
    refine E_iaload (x := 0) (j := 4) rfl rfl (by decide) (by decide) rfl ?_
    refine E_iconst (x := 2) rfl (by decide) ?_
    refine E_ic (t := 77) (b := false) rfl rfl (by decide) ?_
    refine E_aload_n rfl rfl ?_
    refine E_getfield (v := .ref 76) rfl rfl rfl (by decide) rfl ?_
    refine E_iload_n rfl rfl ?_
    refine E_iaload (x := 0) (j := 7) rfl rfl (by decide) (by decide) rfl ?_
    refine E_iconst (x := 1) rfl (by decide) ?_
    refine E_ic (t := 84) (b := true) rfl rfl (by decide) ?_
    refine E_aload_n rfl rfl ?_
    refine E_getfield (v := .ref 76) rfl rfl rfl (by decide) rfl ?_
    refine E_iload_n rfl rfl ?_
    refine E_iaload (x := 0) (j := 7) rfl rfl (by decide) (by decide) rfl ?_
    refine E_if (t := 102) (b := true) rfl rfl (by decide) ?_
    refine E_aload_n rfl rfl ?_
    refine E_bipush (x := (-3)) rfl (by decide) ?_
    refine E_callV (v := some (.int (-3))) (As := [.ref 65, .int (-3)]) (r0 := []) (cs2 := ((w0.set 48 (.inl [0, 0, 0, 1, 0, 0, 0, 0])).set 66 (.inl [0, 0, 0, 1, 0, 0, 0, 0]))) rfl rfl rfl (Nat.le_of_ble_eq_true rfl) rfl rfl c35_X6_no (by decide) (by simp only [List.length_set]) ?_
    exact E_iret rfl rfl, (by simp only [List.length_set]; rfl), (by simp only [List.length_set]; rfl), ((ab_szs rfl).trans ((ab_szs rfl).trans rfl)), fun _ => rfl⟩
theorem f_copy_64 (a3 a4 a5 : Int32) : p1_P 3 78 2 137 [.ref 0, .int 7, .int 5, .int a3, .int a4, .int a5] [.ref 65, .int 7, .int 5, .int a3, .int a4, .int a5] :=
  ⟨(-3), (w0.set 48 (.inl [0, 0, 0, 1, 0, 0, 0, 0])), ((w0.set 48 (.inl [0, 0, 0, 1, 0, 0, 0, 0])).set 66 (.inl [0, 0, 0, 1, 0, 0, 0, 0])), by
    refine Ef.in (md := mX5_copy) (L := [some (.ref 0), some (.int 7), some (.int 5), some (.int a3), some (.int a4), some (.int a5), none, none]) rfl (Nat.le_of_ble_eq_true rfl) rfl ?_
    refine E_iload_n rfl rfl ?_
    refine E_callS (v := some (.int 1)) (As := [.int 7]) (r0 := []) (cs2 := w0) rfl rfl rfl (Nat.le_of_ble_eq_true rfl) rfl c24_X5_isShelf (by decide) rfl ?_
    refine E_if (t := 14) (b := false) rfl rfl (by decide) ?_
    refine E_iload_n rfl rfl ?_
    refine E_callS (v := some (.int 1)) (As := [.int 5]) (r0 := []) (cs2 := w0) rfl rfl rfl (Nat.le_of_ble_eq_true rfl) rfl c20_X5_isShelf (by decide) rfl ?_
    refine E_if (t := 20) (b := true) rfl rfl (by decide) ?_
    refine E_aload_n rfl rfl ?_
    refine E_getfield (v := .ref 31) rfl rfl rfl (by decide) rfl ?_
    refine E_iload_n rfl rfl ?_
    refine E_aaload (b := 63) (j := 7) rfl rfl (by decide) (by decide) rfl ?_
    refine E_astore (L2 := [some (.ref 0), some (.int 7), some (.int 5), some (.int a3), some (.int a4), some (.int a5), some (.ref 63), none]) rfl rfl ?_
    refine E_aload_n rfl rfl ?_
    refine E_getfield (v := .ref 31) rfl rfl rfl (by decide) rfl ?_
    refine E_iload_n rfl rfl ?_
    refine E_aaload (b := 59) (j := 5) rfl rfl (by decide) (by decide) rfl ?_
    refine E_astore (L2 := [some (.ref 0), some (.int 7), some (.int 5), some (.int a3), some (.int a4), some (.int a5), some (.ref 63), some (.ref 59)]) rfl rfl ?_
    refine E_aload rfl rfl ?_
    refine E_callV (v := some (.int 0)) (As := [.ref 63]) (r0 := []) (cs2 := w0) rfl rfl rfl (Nat.le_of_ble_eq_true rfl) rfl rfl c61_X3_isOtherThanRow (by decide) rfl ?_
    refine E_if (t := 62) (b := false) rfl rfl (by decide) ?_
    refine E_aload rfl rfl ?_
    refine E_callV (v := some (.int 0)) (As := [.ref 59]) (r0 := []) (cs2 := w0) rfl rfl rfl (Nat.le_of_ble_eq_true rfl) rfl rfl c53_X3_isOtherThanRow (by decide) rfl ?_
    refine E_if (t := 62) (b := false) rfl rfl (by decide) ?_
    refine E_aload rfl rfl ?_
    refine E_aload rfl rfl ?_
    refine E_callV (v := some (.int 0)) (As := [.ref 63, .ref 59]) (r0 := []) (cs2 := w0) rfl rfl rfl (Nat.le_of_ble_eq_true rfl) rfl rfl c125_X3_isOfOtherSort (by decide) rfl ?_
    refine E_if (t := 68) (b := true) rfl rfl (by decide) ?_
    refine E_aload rfl rfl ?_
    refine E_callV (v := some (.int 1)) (As := [.ref 63]) (r0 := []) (cs2 := w0) rfl rfl rfl (Nat.le_of_ble_eq_true rfl) rfl rfl c62_X3_isEmpty (by decide) rfl ?_
    refine E_if (t := 84) (b := true) rfl rfl (by decide) ?_
    refine E_aload_n rfl rfl ?_
    refine E_iconst (x := 3) rfl (by decide) ?_
    refine E_callV (v := some (.int (-3))) (As := [.ref 0, .int 3]) (r0 := []) (cs2 := (w0.set 48 (.inl [0, 0, 0, 1, 0, 0, 0, 0]))) rfl rfl rfl (Nat.le_of_ble_eq_true rfl) rfl rfl c32_X5_refuse (by decide) (by simp only [List.length_set]) ?_
    exact E_iret rfl rfl, by
    refine Ef.in (md := mX6_copy) (L := [some (.ref 65), some (.int 7), some (.int 5), some (.int a3), some (.int a4), some (.int a5), none]) rfl (Nat.le_of_ble_eq_true rfl) rfl ?_
    refine E_aload_n rfl rfl ?_
    refine E_iload_n rfl rfl ?_
    refine E_callV (v := some (.int 1)) (As := [.ref 65, .int 7]) (r0 := []) (cs2 := (w0.set 48 (.inl [0, 0, 0, 1, 0, 0, 0, 0]))) rfl rfl rfl (Nat.le_of_ble_eq_true rfl) rfl rfl c63_X6_isShelf (by decide) rfl ?_
    refine E_if (t := 16) (b := false) rfl rfl (by decide) ?_
    refine E_aload_n rfl rfl ?_
    refine E_iload_n rfl rfl ?_
    refine E_callV (v := some (.int 1)) (As := [.ref 65, .int 5]) (r0 := []) (cs2 := (w0.set 48 (.inl [0, 0, 0, 1, 0, 0, 0, 0]))) rfl rfl rfl (Nat.le_of_ble_eq_true rfl) rfl rfl c55_X6_isShelf (by decide) rfl ?_
    refine E_if (t := 22) (b := true) rfl rfl (by decide) ?_
    refine E_aload_n rfl rfl ?_
    refine E_getfield (v := .ref 76) rfl rfl rfl (by decide) rfl ?_
    refine E_iload_n rfl rfl ?_
    refine E_iaload (x := 0) (j := 7) rfl rfl (by decide) (by decide) rfl ?_
    refine E_iconst (x := 2) rfl (by decide) ?_
    refine E_ic (t := 77) (b := false) rfl rfl (by decide) ?_
    refine E_aload_n rfl rfl ?_
    refine E_getfield (v := .ref 76) rfl rfl rfl (by decide) rfl ?_
    refine E_iload_n rfl rfl ?_
    refine E_iaload (x := 0) (j := 5) rfl rfl (by decide) (by decide) rfl ?_
    refine E_iconst (x := 2) rfl (by decide) ?_
    refine E_ic (t := 77) (b := false) rfl rfl (by decide) ?_
    refine E_aload_n rfl rfl ?_
    refine E_getfield (v := .ref 76) rfl rfl rfl (by decide) rfl ?_
    refine E_iload_n rfl rfl ?_
    refine E_iaload (x := 0) (j := 7) rfl rfl (by decide) (by decide) rfl ?_
    refine E_iconst (x := 1) rfl (by decide) ?_
    refine E_ic (t := 84) (b := true) rfl rfl (by decide) ?_
    refine E_aload_n rfl rfl ?_
    refine E_getfield (v := .ref 76) rfl rfl rfl (by decide) rfl ?_
    refine E_iload_n rfl rfl ?_
    refine E_iaload (x := 0) (j := 7) rfl rfl (by decide) (by decide) rfl ?_
    refine E_if (t := 102) (b := true) rfl rfl (by decide) ?_
    refine E_aload_n rfl rfl ?_
    refine E_bipush (x := (-3)) rfl (by decide) ?_
    refine E_callV (v := some (.int (-3))) (As := [.ref 65, .int (-3)]) (r0 := []) (cs2 := ((w0.set 48 (.inl [0, 0, 0, 1, 0, 0, 0, 0])).set 66 (.inl [0, 0, 0, 1, 0, 0, 0, 0]))) rfl rfl rfl (Nat.le_of_ble_eq_true rfl) rfl rfl c35_X6_no (by decide) (by simp only [List.length_set]) ?_
    exact E_iret rfl rfl, (by simp only [List.length_set]; rfl), (by simp only [List.length_set]; rfl), ((ab_szs rfl).trans ((ab_szs rfl).trans rfl)), fun _ => rfl⟩
theorem f_copy_65 (a3 a4 a5 : Int32) : p1_P 3 78 2 137 [.ref 0, .int 7, .int 6, .int a3, .int a4, .int a5] [.ref 65, .int 7, .int 6, .int a3, .int a4, .int a5] :=
  ⟨(-3), (w0.set 48 (.inl [0, 0, 0, 1, 0, 0, 0, 0])), ((w0.set 48 (.inl [0, 0, 0, 1, 0, 0, 0, 0])).set 66 (.inl [0, 0, 0, 1, 0, 0, 0, 0])), by
    refine Ef.in (md := mX5_copy) (L := [some (.ref 0), some (.int 7), some (.int 6), some (.int a3), some (.int a4), some (.int a5), none, none]) rfl (Nat.le_of_ble_eq_true rfl) rfl ?_
    refine E_iload_n rfl rfl ?_
    refine E_callS (v := some (.int 1)) (As := [.int 7]) (r0 := []) (cs2 := w0) rfl rfl rfl (Nat.le_of_ble_eq_true rfl) rfl c24_X5_isShelf (by decide) rfl ?_
    refine E_if (t := 14) (b := false) rfl rfl (by decide) ?_
    refine E_iload_n rfl rfl ?_
    refine E_callS (v := some (.int 1)) (As := [.int 6]) (r0 := []) (cs2 := w0) rfl rfl rfl (Nat.le_of_ble_eq_true rfl) rfl c22_X5_isShelf (by decide) rfl ?_
    refine E_if (t := 20) (b := true) rfl rfl (by decide) ?_
    refine E_aload_n rfl rfl ?_
    refine E_getfield (v := .ref 31) rfl rfl rfl (by decide) rfl ?_
    refine E_iload_n rfl rfl ?_
    refine E_aaload (b := 63) (j := 7) rfl rfl (by decide) (by decide) rfl ?_
    refine E_astore (L2 := [some (.ref 0), some (.int 7), some (.int 6), some (.int a3), some (.int a4), some (.int a5), some (.ref 63), none]) rfl rfl ?_
    refine E_aload_n rfl rfl ?_
    refine E_getfield (v := .ref 31) rfl rfl rfl (by decide) rfl ?_
    refine E_iload_n rfl rfl ?_
    refine E_aaload (b := 61) (j := 6) rfl rfl (by decide) (by decide) rfl ?_
    refine E_astore (L2 := [some (.ref 0), some (.int 7), some (.int 6), some (.int a3), some (.int a4), some (.int a5), some (.ref 63), some (.ref 61)]) rfl rfl ?_
    refine E_aload rfl rfl ?_
    refine E_callV (v := some (.int 0)) (As := [.ref 63]) (r0 := []) (cs2 := w0) rfl rfl rfl (Nat.le_of_ble_eq_true rfl) rfl rfl c61_X3_isOtherThanRow (by decide) rfl ?_
    refine E_if (t := 62) (b := false) rfl rfl (by decide) ?_
    refine E_aload rfl rfl ?_
    refine E_callV (v := some (.int 0)) (As := [.ref 61]) (r0 := []) (cs2 := w0) rfl rfl rfl (Nat.le_of_ble_eq_true rfl) rfl rfl c57_X3_isOtherThanRow (by decide) rfl ?_
    refine E_if (t := 62) (b := false) rfl rfl (by decide) ?_
    refine E_aload rfl rfl ?_
    refine E_aload rfl rfl ?_
    refine E_callV (v := some (.int 0)) (As := [.ref 63, .ref 61]) (r0 := []) (cs2 := w0) rfl rfl rfl (Nat.le_of_ble_eq_true rfl) rfl rfl c126_X3_isOfOtherSort (by decide) rfl ?_
    refine E_if (t := 68) (b := true) rfl rfl (by decide) ?_
    refine E_aload rfl rfl ?_
    refine E_callV (v := some (.int 1)) (As := [.ref 63]) (r0 := []) (cs2 := w0) rfl rfl rfl (Nat.le_of_ble_eq_true rfl) rfl rfl c62_X3_isEmpty (by decide) rfl ?_
    refine E_if (t := 84) (b := true) rfl rfl (by decide) ?_
    refine E_aload_n rfl rfl ?_
    refine E_iconst (x := 3) rfl (by decide) ?_
    refine E_callV (v := some (.int (-3))) (As := [.ref 0, .int 3]) (r0 := []) (cs2 := (w0.set 48 (.inl [0, 0, 0, 1, 0, 0, 0, 0]))) rfl rfl rfl (Nat.le_of_ble_eq_true rfl) rfl rfl c32_X5_refuse (by decide) (by simp only [List.length_set]) ?_
    exact E_iret rfl rfl, by
    refine Ef.in (md := mX6_copy) (L := [some (.ref 65), some (.int 7), some (.int 6), some (.int a3), some (.int a4), some (.int a5), none]) rfl (Nat.le_of_ble_eq_true rfl) rfl ?_
    refine E_aload_n rfl rfl ?_
    refine E_iload_n rfl rfl ?_
    refine E_callV (v := some (.int 1)) (As := [.ref 65, .int 7]) (r0 := []) (cs2 := (w0.set 48 (.inl [0, 0, 0, 1, 0, 0, 0, 0]))) rfl rfl rfl (Nat.le_of_ble_eq_true rfl) rfl rfl c63_X6_isShelf (by decide) rfl ?_
    refine E_if (t := 16) (b := false) rfl rfl (by decide) ?_
    refine E_aload_n rfl rfl ?_
    refine E_iload_n rfl rfl ?_
    refine E_callV (v := some (.int 1)) (As := [.ref 65, .int 6]) (r0 := []) (cs2 := (w0.set 48 (.inl [0, 0, 0, 1, 0, 0, 0, 0]))) rfl rfl rfl (Nat.le_of_ble_eq_true rfl) rfl rfl c59_X6_isShelf (by decide) rfl ?_
    refine E_if (t := 22) (b := true) rfl rfl (by decide) ?_
    refine E_aload_n rfl rfl ?_
    refine E_getfield (v := .ref 76) rfl rfl rfl (by decide) rfl ?_
    refine E_iload_n rfl rfl ?_
    refine E_iaload (x := 0) (j := 7) rfl rfl (by decide) (by decide) rfl ?_
    refine E_iconst (x := 2) rfl (by decide) ?_
    refine E_ic (t := 77) (b := false) rfl rfl (by decide) ?_
    refine E_aload_n rfl rfl ?_
    refine E_getfield (v := .ref 76) rfl rfl rfl (by decide) rfl ?_
    refine E_iload_n rfl rfl ?_
    refine E_iaload (x := 0) (j := 6) rfl rfl (by decide) (by decide) rfl ?_
    refine E_iconst (x := 2) rfl (by decide) ?_
    refine E_ic (t := 77) (b := false) rfl rfl (by decide) ?_
    refine E_aload_n rfl rfl ?_
    refine E_getfield (v := .ref 76) rfl rfl rfl (by decide) rfl ?_
    refine E_iload_n rfl rfl ?_
    refine E_iaload (x := 0) (j := 7) rfl rfl (by decide) (by decide) rfl ?_
    refine E_iconst (x := 1) rfl (by decide) ?_
    refine E_ic (t := 84) (b := true) rfl rfl (by decide) ?_
    refine E_aload_n rfl rfl ?_
    refine E_getfield (v := .ref 76) rfl rfl rfl (by decide) rfl ?_
    refine E_iload_n rfl rfl ?_
    refine E_iaload (x := 0) (j := 7) rfl rfl (by decide) (by decide) rfl ?_
    refine E_if (t := 102) (b := true) rfl rfl (by decide) ?_
    refine E_aload_n rfl rfl ?_
    refine E_bipush (x := (-3)) rfl (by decide) ?_
    refine E_callV (v := some (.int (-3))) (As := [.ref 65, .int (-3)]) (r0 := []) (cs2 := ((w0.set 48 (.inl [0, 0, 0, 1, 0, 0, 0, 0])).set 66 (.inl [0, 0, 0, 1, 0, 0, 0, 0]))) rfl rfl rfl (Nat.le_of_ble_eq_true rfl) rfl rfl c35_X6_no (by decide) (by simp only [List.length_set]) ?_
    exact E_iret rfl rfl, (by simp only [List.length_set]; rfl), (by simp only [List.length_set]; rfl), ((ab_szs rfl).trans ((ab_szs rfl).trans rfl)), fun _ => rfl⟩
theorem f_copy_66 (a3 a4 a5 : Int32) : p1_P 3 78 2 137 [.ref 0, .int 7, .int 7, .int a3, .int a4, .int a5] [.ref 65, .int 7, .int 7, .int a3, .int a4, .int a5] :=
  ⟨(-3), (w0.set 48 (.inl [0, 0, 0, 1, 0, 0, 0, 0])), ((w0.set 48 (.inl [0, 0, 0, 1, 0, 0, 0, 0])).set 66 (.inl [0, 0, 0, 1, 0, 0, 0, 0])), by
    refine Ef.in (md := mX5_copy) (L := [some (.ref 0), some (.int 7), some (.int 7), some (.int a3), some (.int a4), some (.int a5), none, none]) rfl (Nat.le_of_ble_eq_true rfl) rfl ?_
    refine E_iload_n rfl rfl ?_
    refine E_callS (v := some (.int 1)) (As := [.int 7]) (r0 := []) (cs2 := w0) rfl rfl rfl (Nat.le_of_ble_eq_true rfl) rfl c24_X5_isShelf (by decide) rfl ?_
    refine E_if (t := 14) (b := false) rfl rfl (by decide) ?_
    refine E_iload_n rfl rfl ?_
    refine E_callS (v := some (.int 1)) (As := [.int 7]) (r0 := []) (cs2 := w0) rfl rfl rfl (Nat.le_of_ble_eq_true rfl) rfl c24_X5_isShelf (by decide) rfl ?_
    refine E_if (t := 20) (b := true) rfl rfl (by decide) ?_
    refine E_aload_n rfl rfl ?_
    refine E_getfield (v := .ref 31) rfl rfl rfl (by decide) rfl ?_
    refine E_iload_n rfl rfl ?_
    refine E_aaload (b := 63) (j := 7) rfl rfl (by decide) (by decide) rfl ?_
    refine E_astore (L2 := [some (.ref 0), some (.int 7), some (.int 7), some (.int a3), some (.int a4), some (.int a5), some (.ref 63), none]) rfl rfl ?_
    refine E_aload_n rfl rfl ?_
    refine E_getfield (v := .ref 31) rfl rfl rfl (by decide) rfl ?_
    refine E_iload_n rfl rfl ?_
    refine E_aaload (b := 63) (j := 7) rfl rfl (by decide) (by decide) rfl ?_
    refine E_astore (L2 := [some (.ref 0), some (.int 7), some (.int 7), some (.int a3), some (.int a4), some (.int a5), some (.ref 63), some (.ref 63)]) rfl rfl ?_
    refine E_aload rfl rfl ?_
    refine E_callV (v := some (.int 0)) (As := [.ref 63]) (r0 := []) (cs2 := w0) rfl rfl rfl (Nat.le_of_ble_eq_true rfl) rfl rfl c61_X3_isOtherThanRow (by decide) rfl ?_
    refine E_if (t := 62) (b := false) rfl rfl (by decide) ?_
    refine E_aload rfl rfl ?_
    refine E_callV (v := some (.int 0)) (As := [.ref 63]) (r0 := []) (cs2 := w0) rfl rfl rfl (Nat.le_of_ble_eq_true rfl) rfl rfl c61_X3_isOtherThanRow (by decide) rfl ?_
    refine E_if (t := 62) (b := false) rfl rfl (by decide) ?_
    refine E_aload rfl rfl ?_
    refine E_aload rfl rfl ?_
    refine E_callV (v := some (.int 0)) (As := [.ref 63, .ref 63]) (r0 := []) (cs2 := w0) rfl rfl rfl (Nat.le_of_ble_eq_true rfl) rfl rfl c127_X3_isOfOtherSort (by decide) rfl ?_
    refine E_if (t := 68) (b := true) rfl rfl (by decide) ?_
    refine E_aload rfl rfl ?_
    refine E_callV (v := some (.int 1)) (As := [.ref 63]) (r0 := []) (cs2 := w0) rfl rfl rfl (Nat.le_of_ble_eq_true rfl) rfl rfl c62_X3_isEmpty (by decide) rfl ?_
    refine E_if (t := 84) (b := true) rfl rfl (by decide) ?_
    refine E_aload_n rfl rfl ?_
    refine E_iconst (x := 3) rfl (by decide) ?_
    refine E_callV (v := some (.int (-3))) (As := [.ref 0, .int 3]) (r0 := []) (cs2 := (w0.set 48 (.inl [0, 0, 0, 1, 0, 0, 0, 0]))) rfl rfl rfl (Nat.le_of_ble_eq_true rfl) rfl rfl c32_X5_refuse (by decide) (by simp only [List.length_set]) ?_
    exact E_iret rfl rfl, by
    refine Ef.in (md := mX6_copy) (L := [some (.ref 65), some (.int 7), some (.int 7), some (.int a3), some (.int a4), some (.int a5), none]) rfl (Nat.le_of_ble_eq_true rfl) rfl ?_
    refine E_aload_n rfl rfl ?_
    refine E_iload_n rfl rfl ?_
    refine E_callV (v := some (.int 1)) (As := [.ref 65, .int 7]) (r0 := []) (cs2 := (w0.set 48 (.inl [0, 0, 0, 1, 0, 0, 0, 0]))) rfl rfl rfl (Nat.le_of_ble_eq_true rfl) rfl rfl c63_X6_isShelf (by decide) rfl ?_
    refine E_if (t := 16) (b := false) rfl rfl (by decide) ?_
    refine E_aload_n rfl rfl ?_
    refine E_iload_n rfl rfl ?_
    refine E_callV (v := some (.int 1)) (As := [.ref 65, .int 7]) (r0 := []) (cs2 := (w0.set 48 (.inl [0, 0, 0, 1, 0, 0, 0, 0]))) rfl rfl rfl (Nat.le_of_ble_eq_true rfl) rfl rfl c63_X6_isShelf (by decide) rfl ?_
    refine E_if (t := 22) (b := true) rfl rfl (by decide) ?_
    refine E_aload_n rfl rfl ?_
    refine E_getfield (v := .ref 76) rfl rfl rfl (by decide) rfl ?_
    refine E_iload_n rfl rfl ?_
    refine E_iaload (x := 0) (j := 7) rfl rfl (by decide) (by decide) rfl ?_
    refine E_iconst (x := 2) rfl (by decide) ?_
    refine E_ic (t := 77) (b := false) rfl rfl (by decide) ?_
    refine E_aload_n rfl rfl ?_
    refine E_getfield (v := .ref 76) rfl rfl rfl (by decide) rfl ?_
    refine E_iload_n rfl rfl ?_
    refine E_iaload (x := 0) (j := 7) rfl rfl (by decide) (by decide) rfl ?_
    refine E_iconst (x := 2) rfl (by decide) ?_
    refine E_ic (t := 77) (b := false) rfl rfl (by decide) ?_
    refine E_aload_n rfl rfl ?_
    refine E_getfield (v := .ref 76) rfl rfl rfl (by decide) rfl ?_
    refine E_iload_n rfl rfl ?_
    refine E_iaload (x := 0) (j := 7) rfl rfl (by decide) (by decide) rfl ?_
    refine E_iconst (x := 1) rfl (by decide) ?_
    refine E_ic (t := 84) (b := true) rfl rfl (by decide) ?_
    refine E_aload_n rfl rfl ?_
    refine E_getfield (v := .ref 76) rfl rfl rfl (by decide) rfl ?_
    refine E_iload_n rfl rfl ?_
    refine E_iaload (x := 0) (j := 7) rfl rfl (by decide) (by decide) rfl ?_
    refine E_if (t := 102) (b := true) rfl rfl (by decide) ?_
    refine E_aload_n rfl rfl ?_
    refine E_bipush (x := (-3)) rfl (by decide) ?_
    refine E_callV (v := some (.int (-3))) (As := [.ref 65, .int (-3)]) (r0 := []) (cs2 := ((w0.set 48 (.inl [0, 0, 0, 1, 0, 0, 0, 0])).set 66 (.inl [0, 0, 0, 1, 0, 0, 0, 0]))) rfl rfl rfl (Nat.le_of_ble_eq_true rfl) rfl rfl c35_X6_no (by decide) (by simp only [List.length_set]) ?_
    exact E_iret rfl rfl, (by simp only [List.length_set]; rfl), (by simp only [List.length_set]; rfl), ((ab_szs rfl).trans ((ab_szs rfl).trans rfl)), fun _ => rfl⟩
theorem f_copy_67 (a1 a2 a3 a4 a5 : Int32) (ha1l : (0 : Int) ≤ a1.toInt) (ha1h : a1.toInt ≤ 7) (ha2l : (8 : Int) ≤ a2.toInt) : p1_P 3 78 2 137 [.ref 0, .int a1, .int a2, .int a3, .int a4, .int a5] [.ref 65, .int a1, .int a2, .int a3, .int a4, .int a5] :=
  ⟨(-1), (w0.set 48 (.inl [0, 1, 0, 0, 0, 0, 0, 0])), ((w0.set 48 (.inl [0, 1, 0, 0, 0, 0, 0, 0])).set 66 (.inl [0, 1, 0, 0, 0, 0, 0, 0])), by
    refine Ef.in (md := mX5_copy) (L := [some (.ref 0), some (.int a1), some (.int a2), some (.int a3), some (.int a4), some (.int a5), none, none]) rfl (Nat.le_of_ble_eq_true rfl) rfl ?_
    refine E_iload_n rfl rfl ?_
    have e2 : Ev ab_Z0 1 117 [.int a1] w0 (some (.int 1), w0) := by
      refine Ef.in (md := mX5_isShelf) (L := [some (.int a1)]) rfl (Nat.le_of_ble_eq_true rfl) rfl ?_
      refine E_iload_n rfl rfl ?_
      refine E_if (t := 14) (b := false) rfl rfl ((cn_lt (rfl : (a1).toInt = (a1).toInt) (by decide : (0 : Int32).toInt = 0)).trans (decide_eq_false (by omega))) ?_
      refine E_iload_n rfl rfl ?_
      refine E_bipush (x := 8) rfl (by decide) ?_
      refine E_ic (t := 14) (b := false) rfl rfl ((cn_ge (rfl : (a1).toInt = (a1).toInt) (by decide : (8 : Int32).toInt = 8)).trans (decide_eq_false (by omega))) ?_
      refine E_iconst (x := 1) rfl (by decide) ?_
      refine E_goto (t := 15) rfl rfl ?_
      exact E_iret rfl rfl
    refine E_callS (v := some (.int 1)) (As := [.int a1]) (r0 := []) (cs2 := w0) rfl rfl rfl (Nat.le_of_ble_eq_true rfl) rfl e2 (by decide) rfl ?_
    refine E_if (t := 14) (b := false) rfl rfl (by decide) ?_
    refine E_iload_n rfl rfl ?_
    have e15 : Ev ab_Z0 1 117 [.int a2] w0 (some (.int 0), w0) := by
      refine Ef.in (md := mX5_isShelf) (L := [some (.int a2)]) rfl (Nat.le_of_ble_eq_true rfl) rfl ?_
      refine E_iload_n rfl rfl ?_
      refine E_if (t := 14) (b := false) rfl rfl ((cn_lt (rfl : (a2).toInt = (a2).toInt) (by decide : (0 : Int32).toInt = 0)).trans (decide_eq_false (by omega))) ?_
      refine E_iload_n rfl rfl ?_
      refine E_bipush (x := 8) rfl (by decide) ?_
      refine E_ic (t := 14) (b := true) rfl rfl ((cn_ge (rfl : (a2).toInt = (a2).toInt) (by decide : (8 : Int32).toInt = 8)).trans (decide_eq_true (by omega))) ?_
      refine E_iconst (x := 0) rfl (by decide) ?_
      exact E_iret rfl rfl
    refine E_callS (v := some (.int 0)) (As := [.int a2]) (r0 := []) (cs2 := w0) rfl rfl rfl (Nat.le_of_ble_eq_true rfl) rfl e15 (by decide) rfl ?_
    refine E_if (t := 20) (b := false) rfl rfl (by decide) ?_
    refine E_aload_n rfl rfl ?_
    refine E_iconst (x := 1) rfl (by decide) ?_
    refine E_callV (v := some (.int (-1))) (As := [.ref 0, .int 1]) (r0 := []) (cs2 := (w0.set 48 (.inl [0, 1, 0, 0, 0, 0, 0, 0]))) rfl rfl rfl (Nat.le_of_ble_eq_true rfl) rfl rfl c1_X5_refuse (by decide) (by simp only [List.length_set]) ?_
    exact E_iret rfl rfl, by
    refine Ef.in (md := mX6_copy) (L := [some (.ref 65), some (.int a1), some (.int a2), some (.int a3), some (.int a4), some (.int a5), none]) rfl (Nat.le_of_ble_eq_true rfl) rfl ?_
    refine E_aload_n rfl rfl ?_
    refine E_iload_n rfl rfl ?_
    have e3 : Ev ab_Z0 1 131 [.ref 65, .int a1] (w0.set 48 (.inl [0, 1, 0, 0, 0, 0, 0, 0])) (some (.int 1), (w0.set 48 (.inl [0, 1, 0, 0, 0, 0, 0, 0]))) := by
      refine Ef.in (md := mX6_isShelf) (L := [some (.ref 65), some (.int a1)]) rfl (Nat.le_of_ble_eq_true rfl) rfl ?_
      refine E_iload_n rfl rfl ?_
      refine E_if (t := 14) (b := false) rfl rfl ((cn_lt (rfl : (a1).toInt = (a1).toInt) (by decide : (0 : Int32).toInt = 0)).trans (decide_eq_false (by omega))) ?_
      refine E_iload_n rfl rfl ?_
      refine E_bipush (x := 8) rfl (by decide) ?_
      refine E_ic (t := 14) (b := false) rfl rfl ((cn_ge (rfl : (a1).toInt = (a1).toInt) (by decide : (8 : Int32).toInt = 8)).trans (decide_eq_false (by omega))) ?_
      refine E_iconst (x := 1) rfl (by decide) ?_
      refine E_goto (t := 15) rfl rfl ?_
      exact E_iret rfl rfl
    refine E_callV (v := some (.int 1)) (As := [.ref 65, .int a1]) (r0 := []) (cs2 := (w0.set 48 (.inl [0, 1, 0, 0, 0, 0, 0, 0]))) rfl rfl rfl (Nat.le_of_ble_eq_true rfl) rfl rfl e3 (by decide) rfl ?_
    refine E_if (t := 16) (b := false) rfl rfl (by decide) ?_
    refine E_aload_n rfl rfl ?_
    refine E_iload_n rfl rfl ?_
    have e17 : Ev ab_Z0 1 131 [.ref 65, .int a2] (w0.set 48 (.inl [0, 1, 0, 0, 0, 0, 0, 0])) (some (.int 0), (w0.set 48 (.inl [0, 1, 0, 0, 0, 0, 0, 0]))) := by
      refine Ef.in (md := mX6_isShelf) (L := [some (.ref 65), some (.int a2)]) rfl (Nat.le_of_ble_eq_true rfl) rfl ?_
      refine E_iload_n rfl rfl ?_
      refine E_if (t := 14) (b := false) rfl rfl ((cn_lt (rfl : (a2).toInt = (a2).toInt) (by decide : (0 : Int32).toInt = 0)).trans (decide_eq_false (by omega))) ?_
      refine E_iload_n rfl rfl ?_
      refine E_bipush (x := 8) rfl (by decide) ?_
      refine E_ic (t := 14) (b := true) rfl rfl ((cn_ge (rfl : (a2).toInt = (a2).toInt) (by decide : (8 : Int32).toInt = 8)).trans (decide_eq_true (by omega))) ?_
      refine E_iconst (x := 0) rfl (by decide) ?_
      exact E_iret rfl rfl
    refine E_callV (v := some (.int 0)) (As := [.ref 65, .int a2]) (r0 := []) (cs2 := (w0.set 48 (.inl [0, 1, 0, 0, 0, 0, 0, 0]))) rfl rfl rfl (Nat.le_of_ble_eq_true rfl) rfl rfl e17 (by decide) rfl ?_
    refine E_if (t := 22) (b := false) rfl rfl (by decide) ?_
    refine E_aload_n rfl rfl ?_
    refine E_iconst (x := (-1)) rfl (by decide) ?_
    refine E_callV (v := some (.int (-1))) (As := [.ref 65, .int (-1)]) (r0 := []) (cs2 := ((w0.set 48 (.inl [0, 1, 0, 0, 0, 0, 0, 0])).set 66 (.inl [0, 1, 0, 0, 0, 0, 0, 0]))) rfl rfl rfl (Nat.le_of_ble_eq_true rfl) rfl rfl c3_X6_no (by decide) (by simp only [List.length_set]) ?_
    exact E_iret rfl rfl, (by simp only [List.length_set]; rfl), (by simp only [List.length_set]; rfl), ((ab_szs rfl).trans ((ab_szs rfl).trans rfl)), fun _ => rfl⟩
theorem f_copy_68 (a1 a2 a3 a4 a5 : Int32) (ha1l : (8 : Int) ≤ a1.toInt) : p1_P 3 78 2 137 [.ref 0, .int a1, .int a2, .int a3, .int a4, .int a5] [.ref 65, .int a1, .int a2, .int a3, .int a4, .int a5] :=
  ⟨(-1), (w0.set 48 (.inl [0, 1, 0, 0, 0, 0, 0, 0])), ((w0.set 48 (.inl [0, 1, 0, 0, 0, 0, 0, 0])).set 66 (.inl [0, 1, 0, 0, 0, 0, 0, 0])), by
    refine Ef.in (md := mX5_copy) (L := [some (.ref 0), some (.int a1), some (.int a2), some (.int a3), some (.int a4), some (.int a5), none, none]) rfl (Nat.le_of_ble_eq_true rfl) rfl ?_
    refine E_iload_n rfl rfl ?_
    have e2 : Ev ab_Z0 1 117 [.int a1] w0 (some (.int 0), w0) := by
      refine Ef.in (md := mX5_isShelf) (L := [some (.int a1)]) rfl (Nat.le_of_ble_eq_true rfl) rfl ?_
      refine E_iload_n rfl rfl ?_
      refine E_if (t := 14) (b := false) rfl rfl ((cn_lt (rfl : (a1).toInt = (a1).toInt) (by decide : (0 : Int32).toInt = 0)).trans (decide_eq_false (by omega))) ?_
      refine E_iload_n rfl rfl ?_
      refine E_bipush (x := 8) rfl (by decide) ?_
      refine E_ic (t := 14) (b := true) rfl rfl ((cn_ge (rfl : (a1).toInt = (a1).toInt) (by decide : (8 : Int32).toInt = 8)).trans (decide_eq_true (by omega))) ?_
      refine E_iconst (x := 0) rfl (by decide) ?_
      exact E_iret rfl rfl
    refine E_callS (v := some (.int 0)) (As := [.int a1]) (r0 := []) (cs2 := w0) rfl rfl rfl (Nat.le_of_ble_eq_true rfl) rfl e2 (by decide) rfl ?_
    refine E_if (t := 14) (b := true) rfl rfl (by decide) ?_
    refine E_aload_n rfl rfl ?_
    refine E_iconst (x := 1) rfl (by decide) ?_
    refine E_callV (v := some (.int (-1))) (As := [.ref 0, .int 1]) (r0 := []) (cs2 := (w0.set 48 (.inl [0, 1, 0, 0, 0, 0, 0, 0]))) rfl rfl rfl (Nat.le_of_ble_eq_true rfl) rfl rfl c1_X5_refuse (by decide) (by simp only [List.length_set]) ?_
    exact E_iret rfl rfl, by
    refine Ef.in (md := mX6_copy) (L := [some (.ref 65), some (.int a1), some (.int a2), some (.int a3), some (.int a4), some (.int a5), none]) rfl (Nat.le_of_ble_eq_true rfl) rfl ?_
    refine E_aload_n rfl rfl ?_
    refine E_iload_n rfl rfl ?_
    have e3 : Ev ab_Z0 1 131 [.ref 65, .int a1] (w0.set 48 (.inl [0, 1, 0, 0, 0, 0, 0, 0])) (some (.int 0), (w0.set 48 (.inl [0, 1, 0, 0, 0, 0, 0, 0]))) := by
      refine Ef.in (md := mX6_isShelf) (L := [some (.ref 65), some (.int a1)]) rfl (Nat.le_of_ble_eq_true rfl) rfl ?_
      refine E_iload_n rfl rfl ?_
      refine E_if (t := 14) (b := false) rfl rfl ((cn_lt (rfl : (a1).toInt = (a1).toInt) (by decide : (0 : Int32).toInt = 0)).trans (decide_eq_false (by omega))) ?_
      refine E_iload_n rfl rfl ?_
      refine E_bipush (x := 8) rfl (by decide) ?_
      refine E_ic (t := 14) (b := true) rfl rfl ((cn_ge (rfl : (a1).toInt = (a1).toInt) (by decide : (8 : Int32).toInt = 8)).trans (decide_eq_true (by omega))) ?_
      refine E_iconst (x := 0) rfl (by decide) ?_
      exact E_iret rfl rfl
    refine E_callV (v := some (.int 0)) (As := [.ref 65, .int a1]) (r0 := []) (cs2 := (w0.set 48 (.inl [0, 1, 0, 0, 0, 0, 0, 0]))) rfl rfl rfl (Nat.le_of_ble_eq_true rfl) rfl rfl e3 (by decide) rfl ?_
    refine E_if (t := 16) (b := true) rfl rfl (by decide) ?_
    refine E_aload_n rfl rfl ?_
    refine E_iconst (x := (-1)) rfl (by decide) ?_
    refine E_callV (v := some (.int (-1))) (As := [.ref 65, .int (-1)]) (r0 := []) (cs2 := ((w0.set 48 (.inl [0, 1, 0, 0, 0, 0, 0, 0])).set 66 (.inl [0, 1, 0, 0, 0, 0, 0, 0]))) rfl rfl rfl (Nat.le_of_ble_eq_true rfl) rfl rfl c3_X6_no (by decide) (by simp only [List.length_set]) ?_
    exact E_iret rfl rfl, (by simp only [List.length_set]; rfl), (by simp only [List.length_set]; rfl), ((ab_szs rfl).trans ((ab_szs rfl).trans rfl)), fun _ => rfl⟩
theorem f_copy (a1 a2 a3 a4 a5 : Int32) : p1_P 3 78 2 137 [.ref 0, .int a1, .int a2, .int a3, .int a4, .int a5] [.ref 65, .int a1, .int a2, .int a3, .int a4, .int a5] := by
  rcases ab_ltge a1.toInt (0) with h | h
  · exact f_copy_1 a1 a2 a3 a4 a5 (by omega)
  rcases ab_ltge a1.toInt (8) with h | h
  · rcases ab_ltge a2.toInt (0) with h | h
    · exact f_copy_2 a1 a2 a3 a4 a5 (by omega) (by omega) (by omega)
    rcases ab_ltge a2.toInt (8) with h | h
    · rcases ab_ltge a1.toInt (1) with h | h
      · obtain rfl : a1 = 0 := Int32.toInt_inj.mp (by rw [show ((0 : Int32).toInt = 0) by decide]; omega)
        rcases ab_ltge a2.toInt (1) with h | h
        · obtain rfl : a2 = 0 := Int32.toInt_inj.mp (by rw [show ((0 : Int32).toInt = 0) by decide]; omega)
          exact f_copy_3 a3 a4 a5
        rcases ab_ltge a2.toInt (2) with h | h
        · obtain rfl : a2 = 1 := Int32.toInt_inj.mp (by rw [show ((1 : Int32).toInt = 1) by decide]; omega)
          exact f_copy_4 a3 a4 a5
        rcases ab_ltge a2.toInt (3) with h | h
        · obtain rfl : a2 = 2 := Int32.toInt_inj.mp (by rw [show ((2 : Int32).toInt = 2) by decide]; omega)
          exact f_copy_5 a3 a4 a5
        rcases ab_ltge a2.toInt (4) with h | h
        · obtain rfl : a2 = 3 := Int32.toInt_inj.mp (by rw [show ((3 : Int32).toInt = 3) by decide]; omega)
          exact f_copy_6 a3 a4 a5
        rcases ab_ltge a2.toInt (5) with h | h
        · obtain rfl : a2 = 4 := Int32.toInt_inj.mp (by rw [show ((4 : Int32).toInt = 4) by decide]; omega)
          exact f_copy_7 a3 a4 a5
        rcases ab_ltge a2.toInt (6) with h | h
        · obtain rfl : a2 = 5 := Int32.toInt_inj.mp (by rw [show ((5 : Int32).toInt = 5) by decide]; omega)
          exact f_copy_8 a3 a4 a5
        rcases ab_ltge a2.toInt (7) with h | h
        · obtain rfl : a2 = 6 := Int32.toInt_inj.mp (by rw [show ((6 : Int32).toInt = 6) by decide]; omega)
          exact f_copy_9 a3 a4 a5
        obtain rfl : a2 = 7 := Int32.toInt_inj.mp (by rw [show ((7 : Int32).toInt = 7) by decide]; omega)
        exact f_copy_10 a3 a4 a5
      rcases ab_ltge a1.toInt (2) with h | h
      · obtain rfl : a1 = 1 := Int32.toInt_inj.mp (by rw [show ((1 : Int32).toInt = 1) by decide]; omega)
        rcases ab_ltge a2.toInt (1) with h | h
        · obtain rfl : a2 = 0 := Int32.toInt_inj.mp (by rw [show ((0 : Int32).toInt = 0) by decide]; omega)
          exact f_copy_11 a3 a4 a5
        rcases ab_ltge a2.toInt (2) with h | h
        · obtain rfl : a2 = 1 := Int32.toInt_inj.mp (by rw [show ((1 : Int32).toInt = 1) by decide]; omega)
          exact f_copy_12 a3 a4 a5
        rcases ab_ltge a2.toInt (3) with h | h
        · obtain rfl : a2 = 2 := Int32.toInt_inj.mp (by rw [show ((2 : Int32).toInt = 2) by decide]; omega)
          exact f_copy_13 a3 a4 a5
        rcases ab_ltge a2.toInt (4) with h | h
        · obtain rfl : a2 = 3 := Int32.toInt_inj.mp (by rw [show ((3 : Int32).toInt = 3) by decide]; omega)
          exact f_copy_14 a3 a4 a5
        rcases ab_ltge a2.toInt (5) with h | h
        · obtain rfl : a2 = 4 := Int32.toInt_inj.mp (by rw [show ((4 : Int32).toInt = 4) by decide]; omega)
          exact f_copy_15 a3 a4 a5
        rcases ab_ltge a2.toInt (6) with h | h
        · obtain rfl : a2 = 5 := Int32.toInt_inj.mp (by rw [show ((5 : Int32).toInt = 5) by decide]; omega)
          exact f_copy_16 a3 a4 a5
        rcases ab_ltge a2.toInt (7) with h | h
        · obtain rfl : a2 = 6 := Int32.toInt_inj.mp (by rw [show ((6 : Int32).toInt = 6) by decide]; omega)
          exact f_copy_17 a3 a4 a5
        obtain rfl : a2 = 7 := Int32.toInt_inj.mp (by rw [show ((7 : Int32).toInt = 7) by decide]; omega)
        exact f_copy_18 a3 a4 a5
      rcases ab_ltge a1.toInt (3) with h | h
      · obtain rfl : a1 = 2 := Int32.toInt_inj.mp (by rw [show ((2 : Int32).toInt = 2) by decide]; omega)
        rcases ab_ltge a2.toInt (1) with h | h
        · obtain rfl : a2 = 0 := Int32.toInt_inj.mp (by rw [show ((0 : Int32).toInt = 0) by decide]; omega)
          exact f_copy_19 a3 a4 a5
        rcases ab_ltge a2.toInt (2) with h | h
        · obtain rfl : a2 = 1 := Int32.toInt_inj.mp (by rw [show ((1 : Int32).toInt = 1) by decide]; omega)
          exact f_copy_20 a3 a4 a5
        rcases ab_ltge a2.toInt (3) with h | h
        · obtain rfl : a2 = 2 := Int32.toInt_inj.mp (by rw [show ((2 : Int32).toInt = 2) by decide]; omega)
          exact f_copy_21 a3 a4 a5
        rcases ab_ltge a2.toInt (4) with h | h
        · obtain rfl : a2 = 3 := Int32.toInt_inj.mp (by rw [show ((3 : Int32).toInt = 3) by decide]; omega)
          exact f_copy_22 a3 a4 a5
        rcases ab_ltge a2.toInt (5) with h | h
        · obtain rfl : a2 = 4 := Int32.toInt_inj.mp (by rw [show ((4 : Int32).toInt = 4) by decide]; omega)
          exact f_copy_23 a3 a4 a5
        rcases ab_ltge a2.toInt (6) with h | h
        · obtain rfl : a2 = 5 := Int32.toInt_inj.mp (by rw [show ((5 : Int32).toInt = 5) by decide]; omega)
          exact f_copy_24 a3 a4 a5
        rcases ab_ltge a2.toInt (7) with h | h
        · obtain rfl : a2 = 6 := Int32.toInt_inj.mp (by rw [show ((6 : Int32).toInt = 6) by decide]; omega)
          exact f_copy_25 a3 a4 a5
        obtain rfl : a2 = 7 := Int32.toInt_inj.mp (by rw [show ((7 : Int32).toInt = 7) by decide]; omega)
        exact f_copy_26 a3 a4 a5
      rcases ab_ltge a1.toInt (4) with h | h
      · obtain rfl : a1 = 3 := Int32.toInt_inj.mp (by rw [show ((3 : Int32).toInt = 3) by decide]; omega)
        rcases ab_ltge a2.toInt (1) with h | h
        · obtain rfl : a2 = 0 := Int32.toInt_inj.mp (by rw [show ((0 : Int32).toInt = 0) by decide]; omega)
          exact f_copy_27 a3 a4 a5
        rcases ab_ltge a2.toInt (2) with h | h
        · obtain rfl : a2 = 1 := Int32.toInt_inj.mp (by rw [show ((1 : Int32).toInt = 1) by decide]; omega)
          exact f_copy_28 a3 a4 a5
        rcases ab_ltge a2.toInt (3) with h | h
        · obtain rfl : a2 = 2 := Int32.toInt_inj.mp (by rw [show ((2 : Int32).toInt = 2) by decide]; omega)
          exact f_copy_29 a3 a4 a5
        rcases ab_ltge a2.toInt (4) with h | h
        · obtain rfl : a2 = 3 := Int32.toInt_inj.mp (by rw [show ((3 : Int32).toInt = 3) by decide]; omega)
          exact f_copy_30 a3 a4 a5
        rcases ab_ltge a2.toInt (5) with h | h
        · obtain rfl : a2 = 4 := Int32.toInt_inj.mp (by rw [show ((4 : Int32).toInt = 4) by decide]; omega)
          exact f_copy_31 a3 a4 a5
        rcases ab_ltge a2.toInt (6) with h | h
        · obtain rfl : a2 = 5 := Int32.toInt_inj.mp (by rw [show ((5 : Int32).toInt = 5) by decide]; omega)
          exact f_copy_32 a3 a4 a5
        rcases ab_ltge a2.toInt (7) with h | h
        · obtain rfl : a2 = 6 := Int32.toInt_inj.mp (by rw [show ((6 : Int32).toInt = 6) by decide]; omega)
          exact f_copy_33 a3 a4 a5
        obtain rfl : a2 = 7 := Int32.toInt_inj.mp (by rw [show ((7 : Int32).toInt = 7) by decide]; omega)
        exact f_copy_34 a3 a4 a5
      rcases ab_ltge a1.toInt (5) with h | h
      · obtain rfl : a1 = 4 := Int32.toInt_inj.mp (by rw [show ((4 : Int32).toInt = 4) by decide]; omega)
        rcases ab_ltge a2.toInt (1) with h | h
        · obtain rfl : a2 = 0 := Int32.toInt_inj.mp (by rw [show ((0 : Int32).toInt = 0) by decide]; omega)
          exact f_copy_35 a3 a4 a5
        rcases ab_ltge a2.toInt (2) with h | h
        · obtain rfl : a2 = 1 := Int32.toInt_inj.mp (by rw [show ((1 : Int32).toInt = 1) by decide]; omega)
          exact f_copy_36 a3 a4 a5
        rcases ab_ltge a2.toInt (3) with h | h
        · obtain rfl : a2 = 2 := Int32.toInt_inj.mp (by rw [show ((2 : Int32).toInt = 2) by decide]; omega)
          exact f_copy_37 a3 a4 a5
        rcases ab_ltge a2.toInt (4) with h | h
        · obtain rfl : a2 = 3 := Int32.toInt_inj.mp (by rw [show ((3 : Int32).toInt = 3) by decide]; omega)
          exact f_copy_38 a3 a4 a5
        rcases ab_ltge a2.toInt (5) with h | h
        · obtain rfl : a2 = 4 := Int32.toInt_inj.mp (by rw [show ((4 : Int32).toInt = 4) by decide]; omega)
          exact f_copy_39 a3 a4 a5
        rcases ab_ltge a2.toInt (6) with h | h
        · obtain rfl : a2 = 5 := Int32.toInt_inj.mp (by rw [show ((5 : Int32).toInt = 5) by decide]; omega)
          exact f_copy_40 a3 a4 a5
        rcases ab_ltge a2.toInt (7) with h | h
        · obtain rfl : a2 = 6 := Int32.toInt_inj.mp (by rw [show ((6 : Int32).toInt = 6) by decide]; omega)
          exact f_copy_41 a3 a4 a5
        obtain rfl : a2 = 7 := Int32.toInt_inj.mp (by rw [show ((7 : Int32).toInt = 7) by decide]; omega)
        exact f_copy_42 a3 a4 a5
      rcases ab_ltge a1.toInt (6) with h | h
      · obtain rfl : a1 = 5 := Int32.toInt_inj.mp (by rw [show ((5 : Int32).toInt = 5) by decide]; omega)
        rcases ab_ltge a2.toInt (1) with h | h
        · obtain rfl : a2 = 0 := Int32.toInt_inj.mp (by rw [show ((0 : Int32).toInt = 0) by decide]; omega)
          exact f_copy_43 a3 a4 a5
        rcases ab_ltge a2.toInt (2) with h | h
        · obtain rfl : a2 = 1 := Int32.toInt_inj.mp (by rw [show ((1 : Int32).toInt = 1) by decide]; omega)
          exact f_copy_44 a3 a4 a5
        rcases ab_ltge a2.toInt (3) with h | h
        · obtain rfl : a2 = 2 := Int32.toInt_inj.mp (by rw [show ((2 : Int32).toInt = 2) by decide]; omega)
          exact f_copy_45 a3 a4 a5
        rcases ab_ltge a2.toInt (4) with h | h
        · obtain rfl : a2 = 3 := Int32.toInt_inj.mp (by rw [show ((3 : Int32).toInt = 3) by decide]; omega)
          exact f_copy_46 a3 a4 a5
        rcases ab_ltge a2.toInt (5) with h | h
        · obtain rfl : a2 = 4 := Int32.toInt_inj.mp (by rw [show ((4 : Int32).toInt = 4) by decide]; omega)
          exact f_copy_47 a3 a4 a5
        rcases ab_ltge a2.toInt (6) with h | h
        · obtain rfl : a2 = 5 := Int32.toInt_inj.mp (by rw [show ((5 : Int32).toInt = 5) by decide]; omega)
          exact f_copy_48 a3 a4 a5
        rcases ab_ltge a2.toInt (7) with h | h
        · obtain rfl : a2 = 6 := Int32.toInt_inj.mp (by rw [show ((6 : Int32).toInt = 6) by decide]; omega)
          exact f_copy_49 a3 a4 a5
        obtain rfl : a2 = 7 := Int32.toInt_inj.mp (by rw [show ((7 : Int32).toInt = 7) by decide]; omega)
        exact f_copy_50 a3 a4 a5
      rcases ab_ltge a1.toInt (7) with h | h
      · obtain rfl : a1 = 6 := Int32.toInt_inj.mp (by rw [show ((6 : Int32).toInt = 6) by decide]; omega)
        rcases ab_ltge a2.toInt (1) with h | h
        · obtain rfl : a2 = 0 := Int32.toInt_inj.mp (by rw [show ((0 : Int32).toInt = 0) by decide]; omega)
          exact f_copy_51 a3 a4 a5
        rcases ab_ltge a2.toInt (2) with h | h
        · obtain rfl : a2 = 1 := Int32.toInt_inj.mp (by rw [show ((1 : Int32).toInt = 1) by decide]; omega)
          exact f_copy_52 a3 a4 a5
        rcases ab_ltge a2.toInt (3) with h | h
        · obtain rfl : a2 = 2 := Int32.toInt_inj.mp (by rw [show ((2 : Int32).toInt = 2) by decide]; omega)
          exact f_copy_53 a3 a4 a5
        rcases ab_ltge a2.toInt (4) with h | h
        · obtain rfl : a2 = 3 := Int32.toInt_inj.mp (by rw [show ((3 : Int32).toInt = 3) by decide]; omega)
          exact f_copy_54 a3 a4 a5
        rcases ab_ltge a2.toInt (5) with h | h
        · obtain rfl : a2 = 4 := Int32.toInt_inj.mp (by rw [show ((4 : Int32).toInt = 4) by decide]; omega)
          exact f_copy_55 a3 a4 a5
        rcases ab_ltge a2.toInt (6) with h | h
        · obtain rfl : a2 = 5 := Int32.toInt_inj.mp (by rw [show ((5 : Int32).toInt = 5) by decide]; omega)
          exact f_copy_56 a3 a4 a5
        rcases ab_ltge a2.toInt (7) with h | h
        · obtain rfl : a2 = 6 := Int32.toInt_inj.mp (by rw [show ((6 : Int32).toInt = 6) by decide]; omega)
          exact f_copy_57 a3 a4 a5
        obtain rfl : a2 = 7 := Int32.toInt_inj.mp (by rw [show ((7 : Int32).toInt = 7) by decide]; omega)
        exact f_copy_58 a3 a4 a5
      obtain rfl : a1 = 7 := Int32.toInt_inj.mp (by rw [show ((7 : Int32).toInt = 7) by decide]; omega)
      rcases ab_ltge a2.toInt (1) with h | h
      · obtain rfl : a2 = 0 := Int32.toInt_inj.mp (by rw [show ((0 : Int32).toInt = 0) by decide]; omega)
        exact f_copy_59 a3 a4 a5
      rcases ab_ltge a2.toInt (2) with h | h
      · obtain rfl : a2 = 1 := Int32.toInt_inj.mp (by rw [show ((1 : Int32).toInt = 1) by decide]; omega)
        exact f_copy_60 a3 a4 a5
      rcases ab_ltge a2.toInt (3) with h | h
      · obtain rfl : a2 = 2 := Int32.toInt_inj.mp (by rw [show ((2 : Int32).toInt = 2) by decide]; omega)
        exact f_copy_61 a3 a4 a5
      rcases ab_ltge a2.toInt (4) with h | h
      · obtain rfl : a2 = 3 := Int32.toInt_inj.mp (by rw [show ((3 : Int32).toInt = 3) by decide]; omega)
        exact f_copy_62 a3 a4 a5
      rcases ab_ltge a2.toInt (5) with h | h
      · obtain rfl : a2 = 4 := Int32.toInt_inj.mp (by rw [show ((4 : Int32).toInt = 4) by decide]; omega)
        exact f_copy_63 a3 a4 a5
      rcases ab_ltge a2.toInt (6) with h | h
      · obtain rfl : a2 = 5 := Int32.toInt_inj.mp (by rw [show ((5 : Int32).toInt = 5) by decide]; omega)
        exact f_copy_64 a3 a4 a5
      rcases ab_ltge a2.toInt (7) with h | h
      · obtain rfl : a2 = 6 := Int32.toInt_inj.mp (by rw [show ((6 : Int32).toInt = 6) by decide]; omega)
        exact f_copy_65 a3 a4 a5
      obtain rfl : a2 = 7 := Int32.toInt_inj.mp (by rw [show ((7 : Int32).toInt = 7) by decide]; omega)
      exact f_copy_66 a3 a4 a5
    exact f_copy_67 a1 a2 a3 a4 a5 (by omega) (by omega) (by omega)
  exact f_copy_68 a1 a2 a3 a4 a5 (by omega)
