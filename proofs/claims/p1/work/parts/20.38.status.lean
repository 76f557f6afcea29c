theorem c279_X5_status : Ev ab_Z0 3 114 [.ref 0, .int 0] w0 (some (.int 0), w0) := by
  refine Ef.in (md := mX5_status) (L := [some (.ref 0), some (.int 0)]) rfl (Nat.le_of_ble_eq_true rfl) rfl ?_
  refine E_iload_n rfl rfl ?_
  refine E_tsIn (off := 55) (t := 56) rfl (by decide) rfl rfl ?_
  refine E_aload_n rfl rfl ?_
  refine E_getfield (v := .ref 1) rfl rfl rfl (by decide) rfl ?_
  refine E_getfield (v := .int 0) rfl rfl rfl (by decide) rfl ?_
  exact E_iret rfl rfl
theorem c280_X6_status : Ev ab_Z0 3 212 [.ref 65, .int 0] w0 (some (.int 0), w0) := by
  refine Ef.in (md := mX6_status) (L := [some (.ref 65), some (.int 0)]) rfl (Nat.le_of_ble_eq_true rfl) rfl ?_
  refine E_iload_n rfl rfl ?_
  refine E_bipush (x := 11) rfl (by decide) ?_
  refine E_ic (t := 22) (b := true) rfl rfl (by decide) ?_
  refine E_iload_n rfl rfl ?_
  refine E_tsIn (off := 53) (t := 76) rfl (by decide) rfl rfl ?_
  refine E_aload_n rfl rfl ?_
  refine E_getfield (v := .int 0) rfl rfl rfl (by decide) rfl ?_
  exact E_iret rfl rfl
theorem c281_X5_status : Ev ab_Z0 3 114 [.ref 0, .int 1] w0 (some (.int 0), w0) := by
  refine Ef.in (md := mX5_status) (L := [some (.ref 0), some (.int 1)]) rfl (Nat.le_of_ble_eq_true rfl) rfl ?_
  refine E_iload_n rfl rfl ?_
  refine E_tsIn (off := 63) (t := 64) rfl (by decide) rfl rfl ?_
  refine E_aload_n rfl rfl ?_
  refine E_getfield (v := .ref 1) rfl rfl rfl (by decide) rfl ?_
  refine E_getfield (v := .int 0) rfl rfl rfl (by decide) rfl ?_
  exact E_iret rfl rfl
theorem c282_X6_status : Ev ab_Z0 3 212 [.ref 65, .int 1] w0 (some (.int 0), w0) := by
  refine Ef.in (md := mX6_status) (L := [some (.ref 65), some (.int 1)]) rfl (Nat.le_of_ble_eq_true rfl) rfl ?_
  refine E_iload_n rfl rfl ?_
  refine E_bipush (x := 11) rfl (by decide) ?_
  refine E_ic (t := 22) (b := true) rfl rfl (by decide) ?_
  refine E_iload_n rfl rfl ?_
  refine E_tsIn (off := 58) (t := 81) rfl (by decide) rfl rfl ?_
  refine E_aload_n rfl rfl ?_
  refine E_getfield (v := .int 0) rfl rfl rfl (by decide) rfl ?_
  exact E_iret rfl rfl
theorem c284_J6_bitCount_0f7a4 : Ev ab_Z0 1 213 [.int 0] w0 (some (.int 0), w0) := by
  refine Ef.in (md := mJ6_bitCount_0f7a4) (L := [some (.int 0)]) rfl (Nat.le_of_ble_eq_true rfl) rfl ?_
  refine E_iload_n rfl rfl ?_
  refine E_iload_n rfl rfl ?_
  refine E_iconst (x := 1) rfl (by decide) ?_
  refine E_iushr (z := 0) rfl (by decide) ?_
  refine E_ldc_w (x := 1431655765) rfl (by decide) ?_
  refine E_iand (z := 0) rfl (by decide) ?_
  refine E_isub (z := 0) rfl (by decide) ?_
  refine E_istore_n (L2 := [some (.int 0)]) rfl rfl ?_
  refine E_iload_n rfl rfl ?_
  refine E_ldc_w (x := 858993459) rfl (by decide) ?_
  refine E_iand (z := 0) rfl (by decide) ?_
  refine E_iload_n rfl rfl ?_
  refine E_iconst (x := 2) rfl (by decide) ?_
  refine E_iushr (z := 0) rfl (by decide) ?_
  refine E_ldc_w (x := 858993459) rfl (by decide) ?_
  refine E_iand (z := 0) rfl (by decide) ?_
  refine E_iadd (z := 0) rfl (by decide) ?_
  refine E_istore_n (L2 := [some (.int 0)]) rfl rfl ?_
  refine E_iload_n rfl rfl ?_
  refine E_iload_n rfl rfl ?_
  refine E_iconst (x := 4) rfl (by decide) ?_
  refine E_iushr (z := 0) rfl (by decide) ?_
  refine E_iadd (z := 0) rfl (by decide) ?_
  refine E_ldc_w (x := 252645135) rfl (by decide) ?_
  refine E_iand (z := 0) rfl (by decide) ?_
  refine E_istore_n (L2 := [some (.int 0)]) rfl rfl ?_
  refine E_iload_n rfl rfl ?_
  refine E_iload_n rfl rfl ?_
  refine E_bipush (x := 8) rfl (by decide) ?_
  refine E_iushr (z := 0) rfl (by decide) ?_
  refine E_iadd (z := 0) rfl (by decide) ?_
  refine E_istore_n (L2 := [some (.int 0)]) rfl rfl ?_
  refine E_iload_n rfl rfl ?_
  refine E_iload_n rfl rfl ?_
  refine E_bipush (x := 16) rfl (by decide) ?_
  refine E_iushr (z := 0) rfl (by decide) ?_
  refine E_iadd (z := 0) rfl (by decide) ?_
  refine E_istore_n (L2 := [some (.int 0)]) rfl rfl ?_
  refine E_iload_n rfl rfl ?_
  refine E_bipush (x := 63) rfl (by decide) ?_
  refine E_iand (z := 0) rfl (by decide) ?_
  exact E_iret rfl rfl
theorem c283_X5_status : Ev ab_Z0 3 114 [.ref 0, .int 2] w0 (some (.int 0), w0) := by
  refine Ef.in (md := mX5_status) (L := [some (.ref 0), some (.int 2)]) rfl (Nat.le_of_ble_eq_true rfl) rfl ?_
  refine E_iload_n rfl rfl ?_
  refine E_tsIn (off := 71) (t := 72) rfl (by decide) rfl rfl ?_
  refine E_aload_n rfl rfl ?_
  refine E_getfield (v := .ref 1) rfl rfl rfl (by decide) rfl ?_
  refine E_callV (v := some (.int 0)) (As := [.ref 1]) (r0 := []) (cs2 := w0) rfl rfl rfl (Nat.le_of_ble_eq_true rfl) rfl rfl c232_X4_basin (by decide) rfl ?_
  refine E_callS (v := some (.int 0)) (As := [.int 0]) (r0 := []) (cs2 := w0) rfl rfl rfl (Nat.le_of_ble_eq_true rfl) rfl c284_J6_bitCount_0f7a4 (by decide) rfl ?_
  exact E_iret rfl rfl
theorem c286_X6_many : Ev ab_Z0 1 167 [.ref 65, .int 0] w0 (some (.int 0), w0) := by
  refine Ef.in (md := mX6_many) (L := [some (.ref 65), some (.int 0), none, none]) rfl (Nat.le_of_ble_eq_true rfl) rfl ?_
  refine E_iconst (x := 0) rfl (by decide) ?_
  refine E_istore_n (L2 := [some (.ref 65), some (.int 0), some (.int 0), none]) rfl rfl ?_
  refine E_iconst (x := 0) rfl (by decide) ?_
  refine E_istore_n (L2 := [some (.ref 65), some (.int 0), some (.int 0), some (.int 0)]) rfl rfl ?_
  refine E_iload_n rfl rfl ?_
  refine E_bipush (x := 9) rfl (by decide) ?_
  refine E_ic (t := 24) (b := false) rfl rfl (by decide) ?_
  refine E_iload_n rfl rfl ?_
  refine E_iload_n rfl rfl ?_
  refine E_iload_n rfl rfl ?_
  refine E_ishr (z := 0) rfl (by decide) ?_
  refine E_iconst (x := 1) rfl (by decide) ?_
  refine E_iand (z := 0) rfl (by decide) ?_
  refine E_iadd (z := 0) rfl (by decide) ?_
  refine E_istore_n (L2 := [some (.ref 65), some (.int 0), some (.int 0), some (.int 0)]) rfl rfl ?_
  refine E_iinc (y := 1) (L2 := [some (.ref 65), some (.int 0), some (.int 0), some (.int 1)]) rfl rfl (by decide) rfl ?_
  refine E_goto (t := 4) rfl rfl ?_
  refine E_iload_n rfl rfl ?_
  refine E_bipush (x := 9) rfl (by decide) ?_
  refine E_ic (t := 24) (b := false) rfl rfl (by decide) ?_
  refine E_iload_n rfl rfl ?_
  refine E_iload_n rfl rfl ?_
  refine E_iload_n rfl rfl ?_
  refine E_ishr (z := 0) rfl (by decide) ?_
  refine E_iconst (x := 1) rfl (by decide) ?_
  refine E_iand (z := 0) rfl (by decide) ?_
  refine E_iadd (z := 0) rfl (by decide) ?_
  refine E_istore_n (L2 := [some (.ref 65), some (.int 0), some (.int 0), some (.int 1)]) rfl rfl ?_
  refine E_iinc (y := 2) (L2 := [some (.ref 65), some (.int 0), some (.int 0), some (.int 2)]) rfl rfl (by decide) rfl ?_
  refine E_goto (t := 4) rfl rfl ?_
  refine E_iload_n rfl rfl ?_
  refine E_bipush (x := 9) rfl (by decide) ?_
  refine E_ic (t := 24) (b := false) rfl rfl (by decide) ?_
  refine E_iload_n rfl rfl ?_
  refine E_iload_n rfl rfl ?_
  refine E_iload_n rfl rfl ?_
  refine E_ishr (z := 0) rfl (by decide) ?_
  refine E_iconst (x := 1) rfl (by decide) ?_
  refine E_iand (z := 0) rfl (by decide) ?_
  refine E_iadd (z := 0) rfl (by decide) ?_
  refine E_istore_n (L2 := [some (.ref 65), some (.int 0), some (.int 0), some (.int 2)]) rfl rfl ?_
  refine E_iinc (y := 3) (L2 := [some (.ref 65), some (.int 0), some (.int 0), some (.int 3)]) rfl rfl (by decide) rfl ?_
  refine E_goto (t := 4) rfl rfl ?_
  refine E_iload_n rfl rfl ?_
  refine E_bipush (x := 9) rfl (by decide) ?_
  refine E_ic (t := 24) (b := false) rfl rfl (by decide) ?_
  refine E_iload_n rfl rfl ?_
  refine E_iload_n rfl rfl ?_
  refine E_iload_n rfl rfl ?_
  refine E_ishr (z := 0) rfl (by decide) ?_
  refine E_iconst (x := 1) rfl (by decide) ?_
  refine E_iand (z := 0) rfl (by decide) ?_
  refine E_iadd (z := 0) rfl (by decide) ?_
  refine E_istore_n (L2 := [some (.ref 65), some (.int 0), some (.int 0), some (.int 3)]) rfl rfl ?_
  refine E_iinc (y := 4) (L2 := [some (.ref 65), some (.int 0), some (.int 0), some (.int 4)]) rfl rfl (by decide) rfl ?_
  refine E_goto (t := 4) rfl rfl ?_
  refine E_iload_n rfl rfl ?_
  refine E_bipush (x := 9) rfl (by decide) ?_
  refine E_ic (t := 24) (b := false) rfl rfl (by decide) ?_
  refine E_iload_n rfl rfl ?_
  refine E_iload_n rfl rfl ?_
  refine E_iload_n rfl rfl ?_
  refine E_ishr (z := 0) rfl (by decide) ?_
  refine E_iconst (x := 1) rfl (by decide) ?_
  refine E_iand (z := 0) rfl (by decide) ?_
  refine E_iadd (z := 0) rfl (by decide) ?_
  refine E_istore_n (L2 := [some (.ref 65), some (.int 0), some (.int 0), some (.int 4)]) rfl rfl ?_
  refine E_iinc (y := 5) (L2 := [some (.ref 65), some (.int 0), some (.int 0), some (.int 5)]) rfl rfl (by decide) rfl ?_
  refine E_goto (t := 4) rfl rfl ?_
  refine E_iload_n rfl rfl ?_
  refine E_bipush (x := 9) rfl (by decide) ?_
  refine E_ic (t := 24) (b := false) rfl rfl (by decide) ?_
  refine E_iload_n rfl rfl ?_
  refine E_iload_n rfl rfl ?_
  refine E_iload_n rfl rfl ?_
  refine E_ishr (z := 0) rfl (by decide) ?_
  refine E_iconst (x := 1) rfl (by decide) ?_
  refine E_iand (z := 0) rfl (by decide) ?_
  refine E_iadd (z := 0) rfl (by decide) ?_
  refine E_istore_n (L2 := [some (.ref 65), some (.int 0), some (.int 0), some (.int 5)]) rfl rfl ?_
  refine E_iinc (y := 6) (L2 := [some (.ref 65), some (.int 0), some (.int 0), some (.int 6)]) rfl rfl (by decide) rfl ?_
  refine E_goto (t := 4) rfl rfl ?_
  refine E_iload_n rfl rfl ?_
  refine E_bipush (x := 9) rfl (by decide) ?_
  refine E_ic (t := 24) (b := false) rfl rfl (by decide) ?_
  refine E_iload_n rfl rfl ?_
  refine E_iload_n rfl rfl ?_
  refine E_iload_n rfl rfl ?_
  refine E_ishr (z := 0) rfl (by decide) ?_
  refine E_iconst (x := 1) rfl (by decide) ?_
  refine E_iand (z := 0) rfl (by decide) ?_
  refine E_iadd (z := 0) rfl (by decide) ?_
  refine E_istore_n (L2 := [some (.ref 65), some (.int 0), some (.int 0), some (.int 6)]) rfl rfl ?_
  refine E_iinc (y := 7) (L2 := [some (.ref 65), some (.int 0), some (.int 0), some (.int 7)]) rfl rfl (by decide) rfl ?_
  refine E_goto (t := 4) rfl rfl ?_
  refine E_iload_n rfl rfl ?_
  refine E_bipush (x := 9) rfl (by decide) ?_
  refine E_ic (t := 24) (b := false) rfl rfl (by decide) ?_
  refine E_iload_n rfl rfl ?_
  refine E_iload_n rfl rfl ?_
  refine E_iload_n rfl rfl ?_
  refine E_ishr (z := 0) rfl (by decide) ?_
  refine E_iconst (x := 1) rfl (by decide) ?_
  refine E_iand (z := 0) rfl (by decide) ?_
  refine E_iadd (z := 0) rfl (by decide) ?_
  refine E_istore_n (L2 := [some (.ref 65), some (.int 0), some (.int 0), some (.int 7)]) rfl rfl ?_
  refine E_iinc (y := 8) (L2 := [some (.ref 65), some (.int 0), some (.int 0), some (.int 8)]) rfl rfl (by decide) rfl ?_
  refine E_goto (t := 4) rfl rfl ?_
  refine E_iload_n rfl rfl ?_
  refine E_bipush (x := 9) rfl (by decide) ?_
  refine E_ic (t := 24) (b := false) rfl rfl (by decide) ?_
  refine E_iload_n rfl rfl ?_
  refine E_iload_n rfl rfl ?_
  refine E_iload_n rfl rfl ?_
  refine E_ishr (z := 0) rfl (by decide) ?_
  refine E_iconst (x := 1) rfl (by decide) ?_
  refine E_iand (z := 0) rfl (by decide) ?_
  refine E_iadd (z := 0) rfl (by decide) ?_
  refine E_istore_n (L2 := [some (.ref 65), some (.int 0), some (.int 0), some (.int 8)]) rfl rfl ?_
  refine E_iinc (y := 9) (L2 := [some (.ref 65), some (.int 0), some (.int 0), some (.int 9)]) rfl rfl (by decide) rfl ?_
  refine E_goto (t := 4) rfl rfl ?_
  refine E_iload_n rfl rfl ?_
  refine E_bipush (x := 9) rfl (by decide) ?_
  refine E_ic (t := 24) (b := true) rfl rfl (by decide) ?_
  refine E_iload_n rfl rfl ?_
  exact E_iret rfl rfl
theorem c285_X6_status : Ev ab_Z0 3 212 [.ref 65, .int 2] w0 (some (.int 0), w0) := by
  refine Ef.in (md := mX6_status) (L := [some (.ref 65), some (.int 2)]) rfl (Nat.le_of_ble_eq_true rfl) rfl ?_
  refine E_iload_n rfl rfl ?_
  refine E_bipush (x := 11) rfl (by decide) ?_
  refine E_ic (t := 22) (b := true) rfl rfl (by decide) ?_
  refine E_iload_n rfl rfl ?_
  refine E_tsIn (off := 63) (t := 86) rfl (by decide) rfl rfl ?_
  refine E_aload_n rfl rfl ?_
  refine E_aload_n rfl rfl ?_
  refine E_bipush (x := 99) rfl (by decide) ?_
  refine E_callV (v := some (.int 0)) (As := [.ref 65, .int 99]) (r0 := [.ref 65]) (cs2 := w0) rfl rfl rfl (Nat.le_of_ble_eq_true rfl) rfl rfl c245_X6_piecesOf (by decide) rfl ?_
  refine E_callV (v := some (.int 0)) (As := [.ref 65, .int 0]) (r0 := []) (cs2 := w0) rfl rfl rfl (Nat.le_of_ble_eq_true rfl) rfl rfl c286_X6_many (by decide) rfl ?_
  exact E_iret rfl rfl
theorem c288_X4_worthOfBits : Ev ab_Z0 2 60 [.ref 1, .int 0] w0 (some (.int 0), w0) := by
  refine Ef.in (md := mX4_worthOfBits) (L := [some (.ref 1), some (.int 0), none, none]) rfl (Nat.le_of_ble_eq_true rfl) rfl ?_
  refine E_iconst (x := 0) rfl (by decide) ?_
  refine E_istore_n (L2 := [some (.ref 1), some (.int 0), some (.int 0), none]) rfl rfl ?_
  refine E_iconst (x := 0) rfl (by decide) ?_
  refine E_istore_n (L2 := [some (.ref 1), some (.int 0), some (.int 0), some (.int 0)]) rfl rfl ?_
  refine E_iload_n rfl rfl ?_
  refine E_aload_n rfl rfl ?_
  refine E_getfield (v := .int 0) rfl rfl rfl (by decide) rfl ?_
  refine E_ic (t := 38) (b := true) rfl rfl (by decide) ?_
  refine E_iload_n rfl rfl ?_
  exact E_iret rfl rfl
theorem c287_X5_status : Ev ab_Z0 3 114 [.ref 0, .int 3] w0 (some (.int 0), w0) := by
  refine Ef.in (md := mX5_status) (L := [some (.ref 0), some (.int 3)]) rfl (Nat.le_of_ble_eq_true rfl) rfl ?_
  refine E_iload_n rfl rfl ?_
  refine E_tsIn (off := 82) (t := 83) rfl (by decide) rfl rfl ?_
  refine E_aload_n rfl rfl ?_
  refine E_getfield (v := .ref 1) rfl rfl rfl (by decide) rfl ?_
  refine E_aload_n rfl rfl ?_
  refine E_getfield (v := .ref 1) rfl rfl rfl (by decide) rfl ?_
  refine E_callV (v := some (.int 0)) (As := [.ref 1]) (r0 := [.ref 1]) (cs2 := w0) rfl rfl rfl (Nat.le_of_ble_eq_true rfl) rfl rfl c232_X4_basin (by decide) rfl ?_
  refine E_callV (v := some (.int 0)) (As := [.ref 1, .int 0]) (r0 := []) (cs2 := w0) rfl rfl rfl (Nat.le_of_ble_eq_true rfl) rfl rfl c288_X4_worthOfBits (by decide) rfl ?_
  exact E_iret rfl rfl
theorem c290_X6_worthOf : Ev ab_Z0 2 168 [.ref 65, .int 0] w0 (some (.int 0), w0) := by
  refine Ef.in (md := mX6_worthOf) (L := [some (.ref 65), some (.int 0), none, none]) rfl (Nat.le_of_ble_eq_true rfl) rfl ?_
  refine E_iconst (x := 0) rfl (by decide) ?_
  refine E_istore_n (L2 := [some (.ref 65), some (.int 0), some (.int 0), none]) rfl rfl ?_
  refine E_iconst (x := 0) rfl (by decide) ?_
  refine E_istore_n (L2 := [some (.ref 65), some (.int 0), some (.int 0), some (.int 0)]) rfl rfl ?_
  refine E_iload_n rfl rfl ?_
  refine E_aload_n rfl rfl ?_
  refine E_getfield (v := .int 0) rfl rfl rfl (by decide) rfl ?_
  refine E_ic (t := 35) (b := true) rfl rfl (by decide) ?_
  refine E_iload_n rfl rfl ?_
  exact E_iret rfl rfl
theorem c289_X6_status : Ev ab_Z0 3 212 [.ref 65, .int 3] w0 (some (.int 0), w0) := by
  refine Ef.in (md := mX6_status) (L := [some (.ref 65), some (.int 3)]) rfl (Nat.le_of_ble_eq_true rfl) rfl ?_
  refine E_iload_n rfl rfl ?_
  refine E_bipush (x := 11) rfl (by decide) ?_
  refine E_ic (t := 22) (b := true) rfl rfl (by decide) ?_
  refine E_iload_n rfl rfl ?_
  refine E_tsIn (off := 74) (t := 97) rfl (by decide) rfl rfl ?_
  refine E_aload_n rfl rfl ?_
  refine E_aload_n rfl rfl ?_
  refine E_bipush (x := 99) rfl (by decide) ?_
  refine E_callV (v := some (.int 0)) (As := [.ref 65, .int 99]) (r0 := [.ref 65]) (cs2 := w0) rfl rfl rfl (Nat.le_of_ble_eq_true rfl) rfl rfl c245_X6_piecesOf (by decide) rfl ?_
  refine E_callV (v := some (.int 0)) (As := [.ref 65, .int 0]) (r0 := []) (cs2 := w0) rfl rfl rfl (Nat.le_of_ble_eq_true rfl) rfl rfl c290_X6_worthOf (by decide) rfl ?_
  exact E_iret rfl rfl
theorem c291_X5_status : Ev ab_Z0 3 114 [.ref 0, .int 4] w0 (some (.int 0), w0) := by
  refine Ef.in (md := mX5_status) (L := [some (.ref 0), some (.int 4)]) rfl (Nat.le_of_ble_eq_true rfl) rfl ?_
  refine E_iload_n rfl rfl ?_
  refine E_tsIn (off := 97) (t := 98) rfl (by decide) rfl rfl ?_
  refine E_aload_n rfl rfl ?_
  refine E_getfield (v := .ref 1) rfl rfl rfl (by decide) rfl ?_
  refine E_getfield (v := .int 0) rfl rfl rfl (by decide) rfl ?_
  exact E_iret rfl rfl
theorem c292_X6_status : Ev ab_Z0 3 212 [.ref 65, .int 4] w0 (some (.int 0), w0) := by
  refine Ef.in (md := mX6_status) (L := [some (.ref 65), some (.int 4)]) rfl (Nat.le_of_ble_eq_true rfl) rfl ?_
  refine E_iload_n rfl rfl ?_
  refine E_bipush (x := 11) rfl (by decide) ?_
  refine E_ic (t := 22) (b := true) rfl rfl (by decide) ?_
  refine E_iload_n rfl rfl ?_
  refine E_tsIn (off := 85) (t := 108) rfl (by decide) rfl rfl ?_
  refine E_aload_n rfl rfl ?_
  refine E_getfield (v := .int 0) rfl rfl rfl (by decide) rfl ?_
  exact E_iret rfl rfl
theorem c293_X5_status : Ev ab_Z0 3 114 [.ref 0, .int 5] w0 (some (.int 0), w0) := by
  refine Ef.in (md := mX5_status) (L := [some (.ref 0), some (.int 5)]) rfl (Nat.le_of_ble_eq_true rfl) rfl ?_
  refine E_iload_n rfl rfl ?_
  refine E_tsIn (off := 105) (t := 106) rfl (by decide) rfl rfl ?_
  refine E_aload_n rfl rfl ?_
  refine E_getfield (v := .ref 1) rfl rfl rfl (by decide) rfl ?_
  refine E_getfield (v := .int 0) rfl rfl rfl (by decide) rfl ?_
  exact E_iret rfl rfl
theorem c294_X6_status : Ev ab_Z0 3 212 [.ref 65, .int 5] w0 (some (.int 0), w0) := by
  refine Ef.in (md := mX6_status) (L := [some (.ref 65), some (.int 5)]) rfl (Nat.le_of_ble_eq_true rfl) rfl ?_
  refine E_iload_n rfl rfl ?_
  refine E_bipush (x := 11) rfl (by decide) ?_
  refine E_ic (t := 22) (b := true) rfl rfl (by decide) ?_
  refine E_iload_n rfl rfl ?_
  refine E_tsIn (off := 90) (t := 113) rfl (by decide) rfl rfl ?_
  refine E_aload_n rfl rfl ?_
  refine E_getfield (v := .int 0) rfl rfl rfl (by decide) rfl ?_
  exact E_iret rfl rfl
theorem c295_X5_status : Ev ab_Z0 3 114 [.ref 0, .int 6] w0 (some (.int 0), w0) := by
  refine Ef.in (md := mX5_status) (L := [some (.ref 0), some (.int 6)]) rfl (Nat.le_of_ble_eq_true rfl) rfl ?_
  refine E_iload_n rfl rfl ?_
  refine E_tsIn (off := 113) (t := 114) rfl (by decide) rfl rfl ?_
  refine E_aload_n rfl rfl ?_
  refine E_getfield (v := .ref 1) rfl rfl rfl (by decide) rfl ?_
  refine E_getfield (v := .int 0) rfl rfl rfl (by decide) rfl ?_
  exact E_iret rfl rfl
theorem c296_X6_status : Ev ab_Z0 3 212 [.ref 65, .int 6] w0 (some (.int 0), w0) := by
  refine Ef.in (md := mX6_status) (L := [some (.ref 65), some (.int 6)]) rfl (Nat.le_of_ble_eq_true rfl) rfl ?_
  refine E_iload_n rfl rfl ?_
  refine E_bipush (x := 11) rfl (by decide) ?_
  refine E_ic (t := 22) (b := true) rfl rfl (by decide) ?_
  refine E_iload_n rfl rfl ?_
  refine E_tsIn (off := 95) (t := 118) rfl (by decide) rfl rfl ?_
  refine E_aload_n rfl rfl ?_
  refine E_getfield (v := .int 0) rfl rfl rfl (by decide) rfl ?_
  exact E_iret rfl rfl
theorem c298_X4_grantedTogether : Ev ab_Z0 1 65 [.ref 1] w0 (some (.int 0), w0) := by
  refine Ef.in (md := mX4_grantedTogether) (L := [some (.ref 1), none, none]) rfl (Nat.le_of_ble_eq_true rfl) rfl ?_
  refine E_iconst (x := 0) rfl (by decide) ?_
  refine E_istore_n (L2 := [some (.ref 1), some (.int 0), none]) rfl rfl ?_
  refine E_iconst (x := 0) rfl (by decide) ?_
  refine E_istore_n (L2 := [some (.ref 1), some (.int 0), some (.int 0)]) rfl rfl ?_
  refine E_iload_n rfl rfl ?_
  refine E_aload_n rfl rfl ?_
  refine E_getfield (v := .int 0) rfl rfl rfl (by decide) rfl ?_
  refine E_ic (t := 27) (b := true) rfl rfl (by decide) ?_
  refine E_iload_n rfl rfl ?_
  exact E_iret rfl rfl
theorem c297_X5_status : Ev ab_Z0 3 114 [.ref 0, .int 7] w0 (some (.int 0), w0) := by
  refine Ef.in (md := mX5_status) (L := [some (.ref 0), some (.int 7)]) rfl (Nat.le_of_ble_eq_true rfl) rfl ?_
  refine E_iload_n rfl rfl ?_
  refine E_tsIn (off := 121) (t := 122) rfl (by decide) rfl rfl ?_
  refine E_aload_n rfl rfl ?_
  refine E_getfield (v := .ref 1) rfl rfl rfl (by decide) rfl ?_
  refine E_callV (v := some (.int 0)) (As := [.ref 1]) (r0 := []) (cs2 := w0) rfl rfl rfl (Nat.le_of_ble_eq_true rfl) rfl rfl c298_X4_grantedTogether (by decide) rfl ?_
  exact E_iret rfl rfl
theorem c300_X6_allGranted : Ev ab_Z0 1 201 [.ref 65] w0 (some (.int 0), w0) := by
  refine Ef.in (md := mX6_allGranted) (L := [some (.ref 65), none, none]) rfl (Nat.le_of_ble_eq_true rfl) rfl ?_
  refine E_iconst (x := 0) rfl (by decide) ?_
  refine E_istore_n (L2 := [some (.ref 65), some (.int 0), none]) rfl rfl ?_
  refine E_iconst (x := 0) rfl (by decide) ?_
  refine E_istore_n (L2 := [some (.ref 65), some (.int 0), some (.int 0)]) rfl rfl ?_
  refine E_iload_n rfl rfl ?_
  refine E_aload_n rfl rfl ?_
  refine E_getfield (v := .int 0) rfl rfl rfl (by decide) rfl ?_
  refine E_ic (t := 27) (b := true) rfl rfl (by decide) ?_
  refine E_iload_n rfl rfl ?_
  exact E_iret rfl rfl
theorem c299_X6_status : Ev ab_Z0 3 212 [.ref 65, .int 7] w0 (some (.int 0), w0) := by
  refine Ef.in (md := mX6_status) (L := [some (.ref 65), some (.int 7)]) rfl (Nat.le_of_ble_eq_true rfl) rfl ?_
  refine E_iload_n rfl rfl ?_
  refine E_bipush (x := 11) rfl (by decide) ?_
  refine E_ic (t := 22) (b := true) rfl rfl (by decide) ?_
  refine E_iload_n rfl rfl ?_
  refine E_tsIn (off := 100) (t := 123) rfl (by decide) rfl rfl ?_
  refine E_aload_n rfl rfl ?_
  refine E_callV (v := some (.int 0)) (As := [.ref 65]) (r0 := []) (cs2 := w0) rfl rfl rfl (Nat.le_of_ble_eq_true rfl) rfl rfl c300_X6_allGranted (by decide) rfl ?_
  exact E_iret rfl rfl
theorem c301_X5_status : Ev ab_Z0 3 114 [.ref 0, .int 8] w0 (some (.int 1), w0) := by
  refine Ef.in (md := mX5_status) (L := [some (.ref 0), some (.int 8)]) rfl (Nat.le_of_ble_eq_true rfl) rfl ?_
  refine E_iload_n rfl rfl ?_
  refine E_tsIn (off := 129) (t := 130) rfl (by decide) rfl rfl ?_
  refine E_aload_n rfl rfl ?_
  refine E_getfield (v := .ref 1) rfl rfl rfl (by decide) rfl ?_
  refine E_getfield (v := .int 1) rfl rfl rfl (by decide) rfl ?_
  exact E_iret rfl rfl
theorem c302_X6_status : Ev ab_Z0 3 212 [.ref 65, .int 8] w0 (some (.int 1), w0) := by
  refine Ef.in (md := mX6_status) (L := [some (.ref 65), some (.int 8)]) rfl (Nat.le_of_ble_eq_true rfl) rfl ?_
  refine E_iload_n rfl rfl ?_
  refine E_bipush (x := 11) rfl (by decide) ?_
  refine E_ic (t := 22) (b := true) rfl rfl (by decide) ?_
  refine E_iload_n rfl rfl ?_
  refine E_tsIn (off := 105) (t := 128) rfl (by decide) rfl rfl ?_
  refine E_aload_n rfl rfl ?_
  refine E_getfield (v := .int 1) rfl rfl rfl (by decide) rfl ?_
  exact E_iret rfl rfl
theorem c303_X5_status : Ev ab_Z0 3 114 [.ref 0, .int 9] w0 (some (.int 0), w0) := by
  refine Ef.in (md := mX5_status) (L := [some (.ref 0), some (.int 9)]) rfl (Nat.le_of_ble_eq_true rfl) rfl ?_
  refine E_iload_n rfl rfl ?_
  refine E_tsIn (off := 137) (t := 138) rfl (by decide) rfl rfl ?_
  refine E_aload_n rfl rfl ?_
  refine E_getfield (v := .ref 46) rfl rfl rfl (by decide) rfl ?_
  refine E_getfield (v := .int 0) rfl rfl rfl (by decide) rfl ?_
  exact E_iret rfl rfl
theorem c304_X6_status : Ev ab_Z0 3 212 [.ref 65, .int 9] w0 (some (.int 0), w0) := by
  refine Ef.in (md := mX6_status) (L := [some (.ref 65), some (.int 9)]) rfl (Nat.le_of_ble_eq_true rfl) rfl ?_
  refine E_iload_n rfl rfl ?_
  refine E_bipush (x := 11) rfl (by decide) ?_
  refine E_ic (t := 22) (b := true) rfl rfl (by decide) ?_
  refine E_iload_n rfl rfl ?_
  refine E_tsIn (off := 110) (t := 133) rfl (by decide) rfl rfl ?_
  refine E_aload_n rfl rfl ?_
  refine E_getfield (v := .int 0) rfl rfl rfl (by decide) rfl ?_
  exact E_iret rfl rfl
theorem c306_X5_isFrom : Ev ab_Z0 1 115 [.int 10, .int 11, .int 17] w0 (some (.int 0), w0) := by
  refine Ef.in (md := mX5_isFrom) (L := [some (.int 10), some (.int 11), some (.int 17)]) rfl (Nat.le_of_ble_eq_true rfl) rfl ?_
  refine E_iload_n rfl rfl ?_
  refine E_iload_n rfl rfl ?_
  refine E_ic (t := 14) (b := true) rfl rfl (by decide) ?_
  refine E_iconst (x := 0) rfl (by decide) ?_
  exact E_iret rfl rfl
theorem c305_X5_status : Ev ab_Z0 3 114 [.ref 0, .int 10] w0 (some (.int (-1)), w0) := by
  refine Ef.in (md := mX5_status) (L := [some (.ref 0), some (.int 10)]) rfl (Nat.le_of_ble_eq_true rfl) rfl ?_
  refine E_iload_n rfl rfl ?_
  refine E_tsOut (t := 146) rfl (by decide) rfl ?_
  refine E_iload_n rfl rfl ?_
  refine E_bipush (x := 11) rfl (by decide) ?_
  refine E_bipush (x := 17) rfl (by decide) ?_
  refine E_callS (v := some (.int 0)) (As := [.int 10, .int 11, .int 17]) (r0 := []) (cs2 := w0) rfl rfl rfl (Nat.le_of_ble_eq_true rfl) rfl c306_X5_isFrom (by decide) rfl ?_
  refine E_if (t := 169) (b := true) rfl rfl (by decide) ?_
  refine E_iconst (x := (-1)) rfl (by decide) ?_
  exact E_iret rfl rfl
theorem c307_X6_status : Ev ab_Z0 3 212 [.ref 65, .int 10] w0 (some (.int (-1)), w0) := by
  refine Ef.in (md := mX6_status) (L := [some (.ref 65), some (.int 10)]) rfl (Nat.le_of_ble_eq_true rfl) rfl ?_
  refine E_iload_n rfl rfl ?_
  refine E_bipush (x := 11) rfl (by decide) ?_
  refine E_ic (t := 22) (b := true) rfl rfl (by decide) ?_
  refine E_iload_n rfl rfl ?_
  refine E_tsOut (t := 138) rfl (by decide) rfl ?_
  refine E_iconst (x := (-1)) rfl (by decide) ?_
  exact E_iret rfl rfl
theorem c309_X5_isFrom : Ev ab_Z0 1 115 [.int 11, .int 11, .int 17] w0 (some (.int 1), w0) := by
  refine Ef.in (md := mX5_isFrom) (L := [some (.int 11), some (.int 11), some (.int 17)]) rfl (Nat.le_of_ble_eq_true rfl) rfl ?_
  refine E_iload_n rfl rfl ?_
  refine E_iload_n rfl rfl ?_
  refine E_ic (t := 14) (b := false) rfl rfl (by decide) ?_
  refine E_iload_n rfl rfl ?_
  refine E_iload_n rfl rfl ?_
  refine E_ic (t := 14) (b := false) rfl rfl (by decide) ?_
  refine E_iconst (x := 1) rfl (by decide) ?_
  refine E_goto (t := 15) rfl rfl ?_
  exact E_iret rfl rfl
theorem c308_X5_status : Ev ab_Z0 3 114 [.ref 0, .int 11] w0 (some (.int 0), w0) := by
  refine Ef.in (md := mX5_status) (L := [some (.ref 0), some (.int 11)]) rfl (Nat.le_of_ble_eq_true rfl) rfl ?_
  refine E_iload_n rfl rfl ?_
  refine E_tsOut (t := 146) rfl (by decide) rfl ?_
  refine E_iload_n rfl rfl ?_
  refine E_bipush (x := 11) rfl (by decide) ?_
  refine E_bipush (x := 17) rfl (by decide) ?_
  refine E_callS (v := some (.int 1)) (As := [.int 11, .int 11, .int 17]) (r0 := []) (cs2 := w0) rfl rfl rfl (Nat.le_of_ble_eq_true rfl) rfl c309_X5_isFrom (by decide) rfl ?_
  refine E_if (t := 169) (b := false) rfl rfl (by decide) ?_
  refine E_aload_n rfl rfl ?_
  refine E_getfield (v := .ref 48) rfl rfl rfl (by decide) rfl ?_
  refine E_iload_n rfl rfl ?_
  refine E_bipush (x := 10) rfl (by decide) ?_
  refine E_isub (z := 1) rfl (by decide) ?_
  refine E_iaload (x := 0) (j := 1) rfl rfl (by decide) (by decide) rfl ?_
  refine E_goto (t := 170) rfl rfl ?_
  exact E_iret rfl rfl
theorem c310_X6_status : Ev ab_Z0 3 212 [.ref 65, .int 11] w0 (some (.int 0), w0) := by
  refine Ef.in (md := mX6_status) (L := [some (.ref 65), some (.int 11)]) rfl (Nat.le_of_ble_eq_true rfl) rfl ?_
  refine E_iload_n rfl rfl ?_
  refine E_bipush (x := 11) rfl (by decide) ?_
  refine E_ic (t := 22) (b := false) rfl rfl (by decide) ?_
  refine E_iload_n rfl rfl ?_
  refine E_bipush (x := 17) rfl (by decide) ?_
  refine E_ic (t := 22) (b := false) rfl rfl (by decide) ?_
  refine E_aload_n rfl rfl ?_
  refine E_getfield (v := .ref 66) rfl rfl rfl (by decide) rfl ?_
  refine E_iload_n rfl rfl ?_
  refine E_bipush (x := 10) rfl (by decide) ?_
  refine E_isub (z := 1) rfl (by decide) ?_
  refine E_iaload (x := 0) (j := 1) rfl rfl (by decide) (by decide) rfl ?_
  exact E_iret rfl rfl
theorem c312_X5_isFrom : Ev ab_Z0 1 115 [.int 12, .int 11, .int 17] w0 (some (.int 1), w0) := by
  refine Ef.in (md := mX5_isFrom) (L := [some (.int 12), some (.int 11), some (.int 17)]) rfl (Nat.le_of_ble_eq_true rfl) rfl ?_
  refine E_iload_n rfl rfl ?_
  refine E_iload_n rfl rfl ?_
  refine E_ic (t := 14) (b := false) rfl rfl (by decide) ?_
  refine E_iload_n rfl rfl ?_
  refine E_iload_n rfl rfl ?_
  refine E_ic (t := 14) (b := false) rfl rfl (by decide) ?_
  refine E_iconst (x := 1) rfl (by decide) ?_
  refine E_goto (t := 15) rfl rfl ?_
  exact E_iret rfl rfl
theorem c311_X5_status : Ev ab_Z0 3 114 [.ref 0, .int 12] w0 (some (.int 0), w0) := by
  refine Ef.in (md := mX5_status) (L := [some (.ref 0), some (.int 12)]) rfl (Nat.le_of_ble_eq_true rfl) rfl ?_
  refine E_iload_n rfl rfl ?_
  refine E_tsOut (t := 146) rfl (by decide) rfl ?_
  refine E_iload_n rfl rfl ?_
  refine E_bipush (x := 11) rfl (by decide) ?_
  refine E_bipush (x := 17) rfl (by decide) ?_
  refine E_callS (v := some (.int 1)) (As := [.int 12, .int 11, .int 17]) (r0 := []) (cs2 := w0) rfl rfl rfl (Nat.le_of_ble_eq_true rfl) rfl c312_X5_isFrom (by decide) rfl ?_
  refine E_if (t := 169) (b := false) rfl rfl (by decide) ?_
  refine E_aload_n rfl rfl ?_
  refine E_getfield (v := .ref 48) rfl rfl rfl (by decide) rfl ?_
  refine E_iload_n rfl rfl ?_
  refine E_bipush (x := 10) rfl (by decide) ?_
  refine E_isub (z := 2) rfl (by decide) ?_
  refine E_iaload (x := 0) (j := 2) rfl rfl (by decide) (by decide) rfl ?_
  refine E_goto (t := 170) rfl rfl ?_
  exact E_iret rfl rfl
theorem c313_X6_status : Ev ab_Z0 3 212 [.ref 65, .int 12] w0 (some (.int 0), w0) := by
  refine Ef.in (md := mX6_status) (L := [some (.ref 65), some (.int 12)]) rfl (Nat.le_of_ble_eq_true rfl) rfl ?_
  refine E_iload_n rfl rfl ?_
  refine E_bipush (x := 11) rfl (by decide) ?_
  refine E_ic (t := 22) (b := false) rfl rfl (by decide) ?_
  refine E_iload_n rfl rfl ?_
  refine E_bipush (x := 17) rfl (by decide) ?_
  refine E_ic (t := 22) (b := false) rfl rfl (by decide) ?_
  refine E_aload_n rfl rfl ?_
  refine E_getfield (v := .ref 66) rfl rfl rfl (by decide) rfl ?_
  refine E_iload_n rfl rfl ?_
  refine E_bipush (x := 10) rfl (by decide) ?_
  refine E_isub (z := 2) rfl (by decide) ?_
  refine E_iaload (x := 0) (j := 2) rfl rfl (by decide) (by decide) rfl ?_
  exact E_iret rfl rfl
theorem c315_X5_isFrom : Ev ab_Z0 1 115 [.int 13, .int 11, .int 17] w0 (some (.int 1), w0) := by
  refine Ef.in (md := mX5_isFrom) (L := [some (.int 13), some (.int 11), some (.int 17)]) rfl (Nat.le_of_ble_eq_true rfl) rfl ?_
  refine E_iload_n rfl rfl ?_
  refine E_iload_n rfl rfl ?_
  refine E_ic (t := 14) (b := false) rfl rfl (by decide) ?_
  refine E_iload_n rfl rfl ?_
  refine E_iload_n rfl rfl ?_
  refine E_ic (t := 14) (b := false) rfl rfl (by decide) ?_
  refine E_iconst (x := 1) rfl (by decide) ?_
  refine E_goto (t := 15) rfl rfl ?_
  exact E_iret rfl rfl
theorem c314_X5_status : Ev ab_Z0 3 114 [.ref 0, .int 13] w0 (some (.int 0), w0) := by
  refine Ef.in (md := mX5_status) (L := [some (.ref 0), some (.int 13)]) rfl (Nat.le_of_ble_eq_true rfl) rfl ?_
  refine E_iload_n rfl rfl ?_
  refine E_tsOut (t := 146) rfl (by decide) rfl ?_
  refine E_iload_n rfl rfl ?_
  refine E_bipush (x := 11) rfl (by decide) ?_
  refine E_bipush (x := 17) rfl (by decide) ?_
  refine E_callS (v := some (.int 1)) (As := [.int 13, .int 11, .int 17]) (r0 := []) (cs2 := w0) rfl rfl rfl (Nat.le_of_ble_eq_true rfl) rfl c315_X5_isFrom (by decide) rfl ?_
  refine E_if (t := 169) (b := false) rfl rfl (by decide) ?_
  refine E_aload_n rfl rfl ?_
  refine E_getfield (v := .ref 48) rfl rfl rfl (by decide) rfl ?_
  refine E_iload_n rfl rfl ?_
  refine E_bipush (x := 10) rfl (by decide) ?_
  refine E_isub (z := 3) rfl (by decide) ?_
  refine E_iaload (x := 0) (j := 3) rfl rfl (by decide) (by decide) rfl ?_
  refine E_goto (t := 170) rfl rfl ?_
  exact E_iret rfl rfl
theorem c316_X6_status : Ev ab_Z0 3 212 [.ref 65, .int 13] w0 (some (.int 0), w0) := by
  refine Ef.in (md := mX6_status) (L := [some (.ref 65), some (.int 13)]) rfl (Nat.le_of_ble_eq_true rfl) rfl ?_
  refine E_iload_n rfl rfl ?_
  refine E_bipush (x := 11) rfl (by decide) ?_
  refine E_ic (t := 22) (b := false) rfl rfl (by decide) ?_
  refine E_iload_n rfl rfl ?_
  refine E_bipush (x := 17) rfl (by decide) ?_
  refine E_ic (t := 22) (b := false) rfl rfl (by decide) ?_
  refine E_aload_n rfl rfl ?_
  refine E_getfield (v := .ref 66) rfl rfl rfl (by decide) rfl ?_
  refine E_iload_n rfl rfl ?_
  refine E_bipush (x := 10) rfl (by decide) ?_
  refine E_isub (z := 3) rfl (by decide) ?_
  refine E_iaload (x := 0) (j := 3) rfl rfl (by decide) (by decide) rfl ?_
  exact E_iret rfl rfl
theorem c318_X5_isFrom : Ev ab_Z0 1 115 [.int 14, .int 11, .int 17] w0 (some (.int 1), w0) := by
  refine Ef.in (md := mX5_isFrom) (L := [some (.int 14), some (.int 11), some (.int 17)]) rfl (Nat.le_of_ble_eq_true rfl) rfl ?_
  refine E_iload_n rfl rfl ?_
  refine E_iload_n rfl rfl ?_
  refine E_ic (t := 14) (b := false) rfl rfl (by decide) ?_
  refine E_iload_n rfl rfl ?_
  refine E_iload_n rfl rfl ?_
  refine E_ic (t := 14) (b := false) rfl rfl (by decide) ?_
  refine E_iconst (x := 1) rfl (by decide) ?_
  refine E_goto (t := 15) rfl rfl ?_
  exact E_iret rfl rfl
theorem c317_X5_status : Ev ab_Z0 3 114 [.ref 0, .int 14] w0 (some (.int 0), w0) := by
  refine Ef.in (md := mX5_status) (L := [some (.ref 0), some (.int 14)]) rfl (Nat.le_of_ble_eq_true rfl) rfl ?_
  refine E_iload_n rfl rfl ?_
  refine E_tsOut (t := 146) rfl (by decide) rfl ?_
  refine E_iload_n rfl rfl ?_
  refine E_bipush (x := 11) rfl (by decide) ?_
  refine E_bipush (x := 17) rfl (by decide) ?_
  refine E_callS (v := some (.int 1)) (As := [.int 14, .int 11, .int 17]) (r0 := []) (cs2 := w0) rfl rfl rfl (Nat.le_of_ble_eq_true rfl) rfl c318_X5_isFrom (by decide) rfl ?_
  refine E_if (t := 169) (b := false) rfl rfl (by decide) ?_
  refine E_aload_n rfl rfl ?_
  refine E_getfield (v := .ref 48) rfl rfl rfl (by decide) rfl ?_
  refine E_iload_n rfl rfl ?_
  refine E_bipush (x := 10) rfl (by decide) ?_
  refine E_isub (z := 4) rfl (by decide) ?_
  refine E_iaload (x := 0) (j := 4) rfl rfl (by decide) (by decide) rfl ?_
  refine E_goto (t := 170) rfl rfl ?_
  exact E_iret rfl rfl
theorem c319_X6_status : Ev ab_Z0 3 212 [.ref 65, .int 14] w0 (some (.int 0), w0) := by
  refine Ef.in (md := mX6_status) (L := [some (.ref 65), some (.int 14)]) rfl (Nat.le_of_ble_eq_true rfl) rfl ?_
  refine E_iload_n rfl rfl ?_
  refine E_bipush (x := 11) rfl (by decide) ?_
  refine E_ic (t := 22) (b := false) rfl rfl (by decide) ?_
  refine E_iload_n rfl rfl ?_
  refine E_bipush (x := 17) rfl (by decide) ?_
  refine E_ic (t := 22) (b := false) rfl rfl (by decide) ?_
  refine E_aload_n rfl rfl ?_
  refine E_getfield (v := .ref 66) rfl rfl rfl (by decide) rfl ?_
  refine E_iload_n rfl rfl ?_
  refine E_bipush (x := 10) rfl (by decide) ?_
  refine E_isub (z := 4) rfl (by decide) ?_
  refine E_iaload (x := 0) (j := 4) rfl rfl (by decide) (by decide) rfl ?_
  exact E_iret rfl rfl
theorem c321_X5_isFrom : Ev ab_Z0 1 115 [.int 15, .int 11, .int 17] w0 (some (.int 1), w0) := by
  refine Ef.in (md := mX5_isFrom) (L := [some (.int 15), some (.int 11), some (.int 17)]) rfl (Nat.le_of_ble_eq_true rfl) rfl ?_
  refine E_iload_n rfl rfl ?_
  refine E_iload_n rfl rfl ?_
  refine E_ic (t := 14) (b := false) rfl rfl (by decide) ?_
  refine E_iload_n rfl rfl ?_
  refine E_iload_n rfl rfl ?_
  refine E_ic (t := 14) (b := false) rfl rfl (by decide) ?_
  refine E_iconst (x := 1) rfl (by decide) ?_
  refine E_goto (t := 15) rfl rfl ?_
  exact E_iret rfl rfl
theorem c320_X5_status : Ev ab_Z0 3 114 [.ref 0, .int 15] w0 (some (.int 0), w0) := by
  refine Ef.in (md := mX5_status) (L := [some (.ref 0), some (.int 15)]) rfl (Nat.le_of_ble_eq_true rfl) rfl ?_
  refine E_iload_n rfl rfl ?_
  refine E_tsOut (t := 146) rfl (by decide) rfl ?_
  refine E_iload_n rfl rfl ?_
  refine E_bipush (x := 11) rfl (by decide) ?_
  refine E_bipush (x := 17) rfl (by decide) ?_
  refine E_callS (v := some (.int 1)) (As := [.int 15, .int 11, .int 17]) (r0 := []) (cs2 := w0) rfl rfl rfl (Nat.le_of_ble_eq_true rfl) rfl c321_X5_isFrom (by decide) rfl ?_
  refine E_if (t := 169) (b := false) rfl rfl (by decide) ?_
  refine E_aload_n rfl rfl ?_
  refine E_getfield (v := .ref 48) rfl rfl rfl (by decide) rfl ?_
  refine E_iload_n rfl rfl ?_
  refine E_bipush (x := 10) rfl (by decide) ?_
  refine E_isub (z := 5) rfl (by decide) ?_
  refine E_iaload (x := 0) (j := 5) rfl rfl (by decide) (by decide) rfl ?_
  refine E_goto (t := 170) rfl rfl ?_
  exact E_iret rfl rfl
theorem c322_X6_status : Ev ab_Z0 3 212 [.ref 65, .int 15] w0 (some (.int 0), w0) := by
  refine Ef.in (md := mX6_status) (L := [some (.ref 65), some (.int 15)]) rfl (Nat.le_of_ble_eq_true rfl) rfl ?_
  refine E_iload_n rfl rfl ?_
  refine E_bipush (x := 11) rfl (by decide) ?_
  refine E_ic (t := 22) (b := false) rfl rfl (by decide) ?_
  refine E_iload_n rfl rfl ?_
  refine E_bipush (x := 17) rfl (by decide) ?_
  refine E_ic (t := 22) (b := false) rfl rfl (by decide) ?_
  refine E_aload_n rfl rfl ?_
  refine E_getfield (v := .ref 66) rfl rfl rfl (by decide) rfl ?_
  refine E_iload_n rfl rfl ?_
  refine E_bipush (x := 10) rfl (by decide) ?_
  refine E_isub (z := 5) rfl (by decide) ?_
  refine E_iaload (x := 0) (j := 5) rfl rfl (by decide) (by decide) rfl ?_
  exact E_iret rfl rfl
theorem c324_X5_isFrom : Ev ab_Z0 1 115 [.int 16, .int 11, .int 17] w0 (some (.int 1), w0) := by
  refine Ef.in (md := mX5_isFrom) (L := [some (.int 16), some (.int 11), some (.int 17)]) rfl (Nat.le_of_ble_eq_true rfl) rfl ?_
  refine E_iload_n rfl rfl ?_
  refine E_iload_n rfl rfl ?_
  refine E_ic (t := 14) (b := false) rfl rfl (by decide) ?_
  refine E_iload_n rfl rfl ?_
  refine E_iload_n rfl rfl ?_
  refine E_ic (t := 14) (b := false) rfl rfl (by decide) ?_
  refine E_iconst (x := 1) rfl (by decide) ?_
  refine E_goto (t := 15) rfl rfl ?_
  exact E_iret rfl rfl
theorem c323_X5_status : Ev ab_Z0 3 114 [.ref 0, .int 16] w0 (some (.int 0), w0) := by
  refine Ef.in (md := mX5_status) (L := [some (.ref 0), some (.int 16)]) rfl (Nat.le_of_ble_eq_true rfl) rfl ?_
  refine E_iload_n rfl rfl ?_
  refine E_tsOut (t := 146) rfl (by decide) rfl ?_
  refine E_iload_n rfl rfl ?_
  refine E_bipush (x := 11) rfl (by decide) ?_
  refine E_bipush (x := 17) rfl (by decide) ?_
  refine E_callS (v := some (.int 1)) (As := [.int 16, .int 11, .int 17]) (r0 := []) (cs2 := w0) rfl rfl rfl (Nat.le_of_ble_eq_true rfl) rfl c324_X5_isFrom (by decide) rfl ?_
  refine E_if (t := 169) (b := false) rfl rfl (by decide) ?_
  refine E_aload_n rfl rfl ?_
  refine E_getfield (v := .ref 48) rfl rfl rfl (by decide) rfl ?_
  refine E_iload_n rfl rfl ?_
  refine E_bipush (x := 10) rfl (by decide) ?_
  refine E_isub (z := 6) rfl (by decide) ?_
  refine E_iaload (x := 0) (j := 6) rfl rfl (by decide) (by decide) rfl ?_
  refine E_goto (t := 170) rfl rfl ?_
  exact E_iret rfl rfl
theorem c325_X6_status : Ev ab_Z0 3 212 [.ref 65, .int 16] w0 (some (.int 0), w0) := by
  refine Ef.in (md := mX6_status) (L := [some (.ref 65), some (.int 16)]) rfl (Nat.le_of_ble_eq_true rfl) rfl ?_
  refine E_iload_n rfl rfl ?_
  refine E_bipush (x := 11) rfl (by decide) ?_
  refine E_ic (t := 22) (b := false) rfl rfl (by decide) ?_
  refine E_iload_n rfl rfl ?_
  refine E_bipush (x := 17) rfl (by decide) ?_
  refine E_ic (t := 22) (b := false) rfl rfl (by decide) ?_
  refine E_aload_n rfl rfl ?_
  refine E_getfield (v := .ref 66) rfl rfl rfl (by decide) rfl ?_
  refine E_iload_n rfl rfl ?_
  refine E_bipush (x := 10) rfl (by decide) ?_
  refine E_isub (z := 6) rfl (by decide) ?_
  refine E_iaload (x := 0) (j := 6) rfl rfl (by decide) (by decide) rfl ?_
  exact E_iret rfl rfl
theorem c327_X5_isFrom : Ev ab_Z0 1 115 [.int 17, .int 11, .int 17] w0 (some (.int 1), w0) := by
  refine Ef.in (md := mX5_isFrom) (L := [some (.int 17), some (.int 11), some (.int 17)]) rfl (Nat.le_of_ble_eq_true rfl) rfl ?_
  refine E_iload_n rfl rfl ?_
  refine E_iload_n rfl rfl ?_
  refine E_ic (t := 14) (b := false) rfl rfl (by decide) ?_
  refine E_iload_n rfl rfl ?_
  refine E_iload_n rfl rfl ?_
  refine E_ic (t := 14) (b := false) rfl rfl (by decide) ?_
  refine E_iconst (x := 1) rfl (by decide) ?_
  refine E_goto (t := 15) rfl rfl ?_
  exact E_iret rfl rfl
theorem c326_X5_status : Ev ab_Z0 3 114 [.ref 0, .int 17] w0 (some (.int 0), w0) := by
  refine Ef.in (md := mX5_status) (L := [some (.ref 0), some (.int 17)]) rfl (Nat.le_of_ble_eq_true rfl) rfl ?_
  refine E_iload_n rfl rfl ?_
  refine E_tsOut (t := 146) rfl (by decide) rfl ?_
  refine E_iload_n rfl rfl ?_
  refine E_bipush (x := 11) rfl (by decide) ?_
  refine E_bipush (x := 17) rfl (by decide) ?_
  refine E_callS (v := some (.int 1)) (As := [.int 17, .int 11, .int 17]) (r0 := []) (cs2 := w0) rfl rfl rfl (Nat.le_of_ble_eq_true rfl) rfl c327_X5_isFrom (by decide) rfl ?_
  refine E_if (t := 169) (b := false) rfl rfl (by decide) ?_
  refine E_aload_n rfl rfl ?_
  refine E_getfield (v := .ref 48) rfl rfl rfl (by decide) rfl ?_
  refine E_iload_n rfl rfl ?_
  refine E_bipush (x := 10) rfl (by decide) ?_
  refine E_isub (z := 7) rfl (by decide) ?_
  refine E_iaload (x := 0) (j := 7) rfl rfl (by decide) (by decide) rfl ?_
  refine E_goto (t := 170) rfl rfl ?_
  exact E_iret rfl rfl
theorem c328_X6_status : Ev ab_Z0 3 212 [.ref 65, .int 17] w0 (some (.int 0), w0) := by
  refine Ef.in (md := mX6_status) (L := [some (.ref 65), some (.int 17)]) rfl (Nat.le_of_ble_eq_true rfl) rfl ?_
  refine E_iload_n rfl rfl ?_
  refine E_bipush (x := 11) rfl (by decide) ?_
  refine E_ic (t := 22) (b := false) rfl rfl (by decide) ?_
  refine E_iload_n rfl rfl ?_
  refine E_bipush (x := 17) rfl (by decide) ?_
  refine E_ic (t := 22) (b := false) rfl rfl (by decide) ?_
  refine E_aload_n rfl rfl ?_
  refine E_getfield (v := .ref 66) rfl rfl rfl (by decide) rfl ?_
  refine E_iload_n rfl rfl ?_
  refine E_bipush (x := 10) rfl (by decide) ?_
  refine E_isub (z := 7) rfl (by decide) ?_
  refine E_iaload (x := 0) (j := 7) rfl rfl (by decide) (by decide) rfl ?_
  exact E_iret rfl rfl
theorem f_status_1 (a1 : Int32) (ha1h : a1.toInt ≤ -1) : p1_P 3 114 3 212 [.ref 0, .int a1] [.ref 65, .int a1] :=
  ⟨(-1), w0, w0, by
    refine Ef.in (md := mX5_status) (L := [some (.ref 0), some (.int a1)]) rfl (Nat.le_of_ble_eq_true rfl) rfl ?_
    refine E_iload_n rfl rfl ?_
    refine E_tsOut (t := 146) rfl (by omega) rfl ?_
    refine E_iload_n rfl rfl ?_
    refine E_bipush (x := 11) rfl (by decide) ?_
    refine E_bipush (x := 17) rfl (by decide) ?_
    have e6 : Ev ab_Z0 1 115 [.int a1, .int 11, .int 17] w0 (some (.int 0), w0) := by
      refine Ef.in (md := mX5_isFrom) (L := [some (.int a1), some (.int 11), some (.int 17)]) rfl (Nat.le_of_ble_eq_true rfl) rfl ?_
      refine E_iload_n rfl rfl ?_
      refine E_iload_n rfl rfl ?_
      refine E_ic (t := 14) (b := true) rfl rfl ((cn_lt (rfl : (a1).toInt = (a1).toInt) (by decide : (11 : Int32).toInt = 11)).trans (decide_eq_true (by omega))) ?_
      refine E_iconst (x := 0) rfl (by decide) ?_
      exact E_iret rfl rfl
    refine E_callS (v := some (.int 0)) (As := [.int a1, .int 11, .int 17]) (r0 := []) (cs2 := w0) rfl rfl rfl (Nat.le_of_ble_eq_true rfl) rfl e6 (by decide) rfl ?_
    refine E_if (t := 169) (b := true) rfl rfl (by decide) ?_
    refine E_iconst (x := (-1)) rfl (by decide) ?_
    exact E_iret rfl rfl, by
    refine Ef.in (md := mX6_status) (L := [some (.ref 65), some (.int a1)]) rfl (Nat.le_of_ble_eq_true rfl) rfl ?_
    refine E_iload_n rfl rfl ?_
    refine E_bipush (x := 11) rfl (by decide) ?_
    refine E_ic (t := 22) (b := true) rfl rfl ((cn_lt (rfl : (a1).toInt = (a1).toInt) (by decide : (11 : Int32).toInt = 11)).trans (decide_eq_true (by omega))) ?_
    refine E_iload_n rfl rfl ?_
    refine E_tsOut (t := 138) rfl (by omega) rfl ?_
    refine E_iconst (x := (-1)) rfl (by decide) ?_
    exact E_iret rfl rfl, rfl, rfl, rfl, fun _ => rfl⟩
theorem f_status_2 : p1_P 3 114 3 212 [.ref 0, .int 0] [.ref 65, .int 0] :=
  ⟨0, w0, w0, by
    exact c279_X5_status, by
    exact c280_X6_status, rfl, rfl, rfl, fun _ => rfl⟩
theorem f_status_3 : p1_P 3 114 3 212 [.ref 0, .int 1] [.ref 65, .int 1] :=
  ⟨0, w0, w0, by
    exact c281_X5_status, by
    exact c282_X6_status, rfl, rfl, rfl, fun _ => rfl⟩
theorem f_status_4 : p1_P 3 114 3 212 [.ref 0, .int 2] [.ref 65, .int 2] :=
  ⟨0, w0, w0, by
    exact c283_X5_status, by
    exact c285_X6_status, rfl, rfl, rfl, fun _ => rfl⟩
theorem f_status_5 : p1_P 3 114 3 212 [.ref 0, .int 3] [.ref 65, .int 3] :=
  ⟨0, w0, w0, by
    exact c287_X5_status, by
    exact c289_X6_status, rfl, rfl, rfl, fun _ => rfl⟩
theorem f_status_6 : p1_P 3 114 3 212 [.ref 0, .int 4] [.ref 65, .int 4] :=
  ⟨0, w0, w0, by
    exact c291_X5_status, by
    exact c292_X6_status, rfl, rfl, rfl, fun _ => rfl⟩
theorem f_status_7 : p1_P 3 114 3 212 [.ref 0, .int 5] [.ref 65, .int 5] :=
  ⟨0, w0, w0, by
    exact c293_X5_status, by
    exact c294_X6_status, rfl, rfl, rfl, fun _ => rfl⟩
theorem f_status_8 : p1_P 3 114 3 212 [.ref 0, .int 6] [.ref 65, .int 6] :=
  ⟨0, w0, w0, by
    exact c295_X5_status, by
    exact c296_X6_status, rfl, rfl, rfl, fun _ => rfl⟩
theorem f_status_9 : p1_P 3 114 3 212 [.ref 0, .int 7] [.ref 65, .int 7] :=
  ⟨0, w0, w0, by
    exact c297_X5_status, by
    exact c299_X6_status, rfl, rfl, rfl, fun _ => rfl⟩
theorem f_status_10 : p1_P 3 114 3 212 [.ref 0, .int 8] [.ref 65, .int 8] :=
  ⟨1, w0, w0, by
    exact c301_X5_status, by
    exact c302_X6_status, rfl, rfl, rfl, fun _ => rfl⟩
theorem f_status_11 : p1_P 3 114 3 212 [.ref 0, .int 9] [.ref 65, .int 9] :=
  ⟨0, w0, w0, by
    exact c303_X5_status, by
    exact c304_X6_status, rfl, rfl, rfl, fun _ => rfl⟩
theorem f_status_12 : p1_P 3 114 3 212 [.ref 0, .int 10] [.ref 65, .int 10] :=
  ⟨(-1), w0, w0, by
    exact c305_X5_status, by
    exact c307_X6_status, rfl, rfl, rfl, fun _ => rfl⟩
theorem f_status_13 : p1_P 3 114 3 212 [.ref 0, .int 11] [.ref 65, .int 11] :=
  ⟨0, w0, w0, by
    exact c308_X5_status, by
    exact c310_X6_status, rfl, rfl, rfl, fun _ => rfl⟩
theorem f_status_14 : p1_P 3 114 3 212 [.ref 0, .int 12] [.ref 65, .int 12] :=
  ⟨0, w0, w0, by
    exact c311_X5_status, by
    exact c313_X6_status, rfl, rfl, rfl, fun _ => rfl⟩
theorem f_status_15 : p1_P 3 114 3 212 [.ref 0, .int 13] [.ref 65, .int 13] :=
  ⟨0, w0, w0, by
    exact c314_X5_status, by
    exact c316_X6_status, rfl, rfl, rfl, fun _ => rfl⟩
theorem f_status_16 : p1_P 3 114 3 212 [.ref 0, .int 14] [.ref 65, .int 14] :=
  ⟨0, w0, w0, by
    exact c317_X5_status, by
    exact c319_X6_status, rfl, rfl, rfl, fun _ => rfl⟩
theorem f_status_17 : p1_P 3 114 3 212 [.ref 0, .int 15] [.ref 65, .int 15] :=
  ⟨0, w0, w0, by
    exact c320_X5_status, by
    exact c322_X6_status, rfl, rfl, rfl, fun _ => rfl⟩
theorem f_status_18 : p1_P 3 114 3 212 [.ref 0, .int 16] [.ref 65, .int 16] :=
  ⟨0, w0, w0, by
    exact c323_X5_status, by
    exact c325_X6_status, rfl, rfl, rfl, fun _ => rfl⟩
theorem f_status_19 : p1_P 3 114 3 212 [.ref 0, .int 17] [.ref 65, .int 17] :=
  ⟨0, w0, w0, by
    exact c326_X5_status, by
    exact c328_X6_status, rfl, rfl, rfl, fun _ => rfl⟩
theorem f_status_20 (a1 : Int32) (ha1l : (18 : Int) ≤ a1.toInt) : p1_P 3 114 3 212 [.ref 0, .int a1] [.ref 65, .int a1] :=
  ⟨(-1), w0, w0, by
    refine Ef.in (md := mX5_status) (L := [some (.ref 0), some (.int a1)]) rfl (Nat.le_of_ble_eq_true rfl) rfl ?_
    refine E_iload_n rfl rfl ?_
    refine E_tsOut (t := 146) rfl (by omega) rfl ?_
    refine E_iload_n rfl rfl ?_
    refine E_bipush (x := 11) rfl (by decide) ?_
    refine E_bipush (x := 17) rfl (by decide) ?_
    have e6 : Ev ab_Z0 1 115 [.int a1, .int 11, .int 17] w0 (some (.int 0), w0) := by
      refine Ef.in (md := mX5_isFrom) (L := [some (.int a1), some (.int 11), some (.int 17)]) rfl (Nat.le_of_ble_eq_true rfl) rfl ?_
      refine E_iload_n rfl rfl ?_
      refine E_iload_n rfl rfl ?_
      refine E_ic (t := 14) (b := false) rfl rfl ((cn_lt (rfl : (a1).toInt = (a1).toInt) (by decide : (11 : Int32).toInt = 11)).trans (decide_eq_false (by omega))) ?_
      refine E_iload_n rfl rfl ?_
      refine E_iload_n rfl rfl ?_
      refine E_ic (t := 14) (b := true) rfl rfl ((cn_gt (rfl : (a1).toInt = (a1).toInt) (by decide : (17 : Int32).toInt = 17)).trans (decide_eq_true (by omega))) ?_
      refine E_iconst (x := 0) rfl (by decide) ?_
      exact E_iret rfl rfl
    refine E_callS (v := some (.int 0)) (As := [.int a1, .int 11, .int 17]) (r0 := []) (cs2 := w0) rfl rfl rfl (Nat.le_of_ble_eq_true rfl) rfl e6 (by decide) rfl ?_
    refine E_if (t := 169) (b := true) rfl rfl (by decide) ?_
    refine E_iconst (x := (-1)) rfl (by decide) ?_
    exact E_iret rfl rfl, by
    refine Ef.in (md := mX6_status) (L := [some (.ref 65), some (.int a1)]) rfl (Nat.le_of_ble_eq_true rfl) rfl ?_
    refine E_iload_n rfl rfl ?_
    refine E_bipush (x := 11) rfl (by decide) ?_
    refine E_ic (t := 22) (b := false) rfl rfl ((cn_lt (rfl : (a1).toInt = (a1).toInt) (by decide : (11 : Int32).toInt = 11)).trans (decide_eq_false (by omega))) ?_
    refine E_iload_n rfl rfl ?_
    refine E_bipush (x := 17) rfl (by decide) ?_
    refine E_ic (t := 22) (b := true) rfl rfl ((cn_gt (rfl : (a1).toInt = (a1).toInt) (by decide : (17 : Int32).toInt = 17)).trans (decide_eq_true (by omega))) ?_
    refine E_iload_n rfl rfl ?_
    refine E_tsOut (t := 138) rfl (by omega) rfl ?_
    refine E_iconst (x := (-1)) rfl (by decide) ?_
    exact E_iret rfl rfl, rfl, rfl, rfl, fun _ => rfl⟩
theorem f_status (a1 : Int32) : p1_P 3 114 3 212 [.ref 0, .int a1] [.ref 65, .int a1] := by
  rcases ab_ltge a1.toInt (0) with h | h
  · exact f_status_1 a1 (by omega)
  rcases ab_ltge a1.toInt (1) with h | h
  · obtain rfl : a1 = 0 := Int32.toInt_inj.mp (by rw [show ((0 : Int32).toInt = 0) by decide]; omega)
    exact f_status_2
  rcases ab_ltge a1.toInt (2) with h | h
  · obtain rfl : a1 = 1 := Int32.toInt_inj.mp (by rw [show ((1 : Int32).toInt = 1) by decide]; omega)
    exact f_status_3
  rcases ab_ltge a1.toInt (3) with h | h
  · obtain rfl : a1 = 2 := Int32.toInt_inj.mp (by rw [show ((2 : Int32).toInt = 2) by decide]; omega)
    exact f_status_4
  rcases ab_ltge a1.toInt (4) with h | h
  · obtain rfl : a1 = 3 := Int32.toInt_inj.mp (by rw [show ((3 : Int32).toInt = 3) by decide]; omega)
    exact f_status_5
  rcases ab_ltge a1.toInt (5) with h | h
  · obtain rfl : a1 = 4 := Int32.toInt_inj.mp (by rw [show ((4 : Int32).toInt = 4) by decide]; omega)
    exact f_status_6
  rcases ab_ltge a1.toInt (6) with h | h
  · obtain rfl : a1 = 5 := Int32.toInt_inj.mp (by rw [show ((5 : Int32).toInt = 5) by decide]; omega)
    exact f_status_7
  rcases ab_ltge a1.toInt (7) with h | h
  · obtain rfl : a1 = 6 := Int32.toInt_inj.mp (by rw [show ((6 : Int32).toInt = 6) by decide]; omega)
    exact f_status_8
  rcases ab_ltge a1.toInt (8) with h | h
  · obtain rfl : a1 = 7 := Int32.toInt_inj.mp (by rw [show ((7 : Int32).toInt = 7) by decide]; omega)
    exact f_status_9
  rcases ab_ltge a1.toInt (9) with h | h
  · obtain rfl : a1 = 8 := Int32.toInt_inj.mp (by rw [show ((8 : Int32).toInt = 8) by decide]; omega)
    exact f_status_10
  rcases ab_ltge a1.toInt (10) with h | h
  · obtain rfl : a1 = 9 := Int32.toInt_inj.mp (by rw [show ((9 : Int32).toInt = 9) by decide]; omega)
    exact f_status_11
  rcases ab_ltge a1.toInt (11) with h | h
  · obtain rfl : a1 = 10 := Int32.toInt_inj.mp (by rw [show ((10 : Int32).toInt = 10) by decide]; omega)
    exact f_status_12
  rcases ab_ltge a1.toInt (18) with h | h
  · rcases ab_ltge a1.toInt (12) with h | h
    · obtain rfl : a1 = 11 := Int32.toInt_inj.mp (by rw [show ((11 : Int32).toInt = 11) by decide]; omega)
      exact f_status_13
    rcases ab_ltge a1.toInt (13) with h | h
    · obtain rfl : a1 = 12 := Int32.toInt_inj.mp (by rw [show ((12 : Int32).toInt = 12) by decide]; omega)
      exact f_status_14
    rcases ab_ltge a1.toInt (14) with h | h
    · obtain rfl : a1 = 13 := Int32.toInt_inj.mp (by rw [show ((13 : Int32).toInt = 13) by decide]; omega)
      exact f_status_15
    rcases ab_ltge a1.toInt (15) with h | h
    · obtain rfl : a1 = 14 := Int32.toInt_inj.mp (by rw [show ((14 : Int32).toInt = 14) by decide]; omega)
      exact f_status_16
    rcases ab_ltge a1.toInt (16) with h | h
    · obtain rfl : a1 = 15 := Int32.toInt_inj.mp (by rw [show ((15 : Int32).toInt = 15) by decide]; omega)
      exact f_status_17
    rcases ab_ltge a1.toInt (17) with h | h
    · obtain rfl : a1 = 16 := Int32.toInt_inj.mp (by rw [show ((16 : Int32).toInt = 16) by decide]; omega)
      exact f_status_18
    obtain rfl : a1 = 17 := Int32.toInt_inj.mp (by rw [show ((17 : Int32).toInt = 17) by decide]; omega)
    exact f_status_19
  exact f_status_20 a1 (by omega)
