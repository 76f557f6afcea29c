theorem c260_X5_dearest : Ev ab_Z0 4 126 [.ref 0] w0 (some (.int (-1)), w0) := by
  refine Ef.in (md := mX5_dearest) (L := [some (.ref 0), none, none, none, none, none]) rfl (Nat.le_of_ble_eq_true rfl) rfl ?_
  refine E_iconst (x := (-1)) rfl (by decide) ?_
  refine E_istore_n (L2 := [some (.ref 0), some (.int (-1)), none, none, none, none]) rfl rfl ?_
  refine E_bipush (x := 100) rfl (by decide) ?_
  refine E_istore_n (L2 := [some (.ref 0), some (.int (-1)), some (.int 100), none, none, none]) rfl rfl ?_
  refine E_aload_n rfl rfl ?_
  refine E_getfield (v := .ref 1) rfl rfl rfl (by decide) rfl ?_
  refine E_callV (v := some (.int 0)) (As := [.ref 1]) (r0 := []) (cs2 := w0) rfl rfl rfl (Nat.le_of_ble_eq_true rfl) rfl rfl c232_X4_basin (by decide) rfl ?_
  refine E_istore_n (L2 := [some (.ref 0), some (.int (-1)), some (.int 100), some (.int 0), none, none]) rfl rfl ?_
  refine E_iconst (x := 0) rfl (by decide) ?_
  refine E_istore (L2 := [some (.ref 0), some (.int (-1)), some (.int 100), some (.int 0), some (.int 0), none]) rfl rfl ?_
  refine E_iload rfl rfl ?_
  refine E_aload_n rfl rfl ?_
  refine E_getfield (v := .ref 1) rfl rfl rfl (by decide) rfl ?_
  refine E_getfield (v := .int 0) rfl rfl rfl (by decide) rfl ?_
  refine E_ic (t := 79) (b := true) rfl rfl (by decide) ?_
  refine E_iload_n rfl rfl ?_
  exact E_iret rfl rfl
theorem c259_X5_dear : Ev ab_Z0 5 101 [.ref 0, .int 0] w0 (some (.int (-1)), w0) := by
  refine Ef.in (md := mX5_dear) (L := [some (.ref 0), some (.int 0)]) rfl (Nat.le_of_ble_eq_true rfl) rfl ?_
  refine E_iload_n rfl rfl ?_
  refine E_ls (off := 27) (t := 28) rfl (by decide) (by decide) rfl ?_
  refine E_aload_n rfl rfl ?_
  refine E_callV (v := some (.int (-1))) (As := [.ref 0]) (r0 := []) (cs2 := w0) rfl rfl rfl (Nat.le_of_ble_eq_true rfl) rfl rfl c260_X5_dearest (by decide) rfl ?_
  exact E_iret rfl rfl
theorem c262_X6_dearest : Ev ab_Z0 4 189 [.ref 65] w0 (some (.int (-1)), w0) := by
  refine Ef.in (md := mX6_dearest) (L := [some (.ref 65), none, none, none, none, none]) rfl (Nat.le_of_ble_eq_true rfl) rfl ?_
  refine E_aload_n rfl rfl ?_
  refine E_bipush (x := 99) rfl (by decide) ?_
  refine E_callV (v := some (.int 0)) (As := [.ref 65, .int 99]) (r0 := []) (cs2 := w0) rfl rfl rfl (Nat.le_of_ble_eq_true rfl) rfl rfl c245_X6_piecesOf (by decide) rfl ?_
  refine E_istore_n (L2 := [some (.ref 65), some (.int 0), none, none, none, none]) rfl rfl ?_
  refine E_iconst (x := (-1)) rfl (by decide) ?_
  refine E_istore_n (L2 := [some (.ref 65), some (.int 0), some (.int (-1)), none, none, none]) rfl rfl ?_
  refine E_iconst (x := 0) rfl (by decide) ?_
  refine E_istore_n (L2 := [some (.ref 65), some (.int 0), some (.int (-1)), some (.int 0), none, none]) rfl rfl ?_
  refine E_iconst (x := 0) rfl (by decide) ?_
  refine E_istore (L2 := [some (.ref 65), some (.int 0), some (.int (-1)), some (.int 0), some (.int 0), none]) rfl rfl ?_
  refine E_iload rfl rfl ?_
  refine E_aload_n rfl rfl ?_
  refine E_getfield (v := .int 0) rfl rfl rfl (by decide) rfl ?_
  refine E_ic (t := 78) (b := true) rfl rfl (by decide) ?_
  refine E_iload_n rfl rfl ?_
  exact E_iret rfl rfl
theorem c261_X6_dear : Ev ab_Z0 5 191 [.ref 65, .int 0] w0 (some (.int (-1)), w0) := by
  refine Ef.in (md := mX6_dear) (L := [some (.ref 65), some (.int 0), none, none]) rfl (Nat.le_of_ble_eq_true rfl) rfl ?_
  refine E_iload_n rfl rfl ?_
  refine E_if (t := 9) (b := false) rfl rfl (by decide) ?_
  refine E_iload_n rfl rfl ?_
  refine E_iconst (x := 1) rfl (by decide) ?_
  refine E_ic (t := 16) (b := true) rfl rfl (by decide) ?_
  refine E_iload_n rfl rfl ?_
  refine E_if (t := 25) (b := false) rfl rfl (by decide) ?_
  refine E_aload_n rfl rfl ?_
  refine E_callV (v := some (.int (-1))) (As := [.ref 65]) (r0 := []) (cs2 := w0) rfl rfl rfl (Nat.le_of_ble_eq_true rfl) rfl rfl c262_X6_dearest (by decide) rfl ?_
  exact E_iret rfl rfl
theorem c265_X4_wanting : Ev ab_Z0 1 64 [.ref 1, .int 0] w0 (some (.int 0), w0) := by
  refine Ef.in (md := mX4_wanting) (L := [some (.ref 1), some (.int 0), none, none]) rfl (Nat.le_of_ble_eq_true rfl) rfl ?_
  refine E_iconst (x := 0) rfl (by decide) ?_
  refine E_istore_n (L2 := [some (.ref 1), some (.int 0), some (.int 0), none]) rfl rfl ?_
  refine E_iconst (x := 0) rfl (by decide) ?_
  refine E_istore_n (L2 := [some (.ref 1), some (.int 0), some (.int 0), some (.int 0)]) rfl rfl ?_
  refine E_iload_n rfl rfl ?_
  refine E_aload_n rfl rfl ?_
  refine E_getfield (v := .int 0) rfl rfl rfl (by decide) rfl ?_
  refine E_ic (t := 36) (b := true) rfl rfl (by decide) ?_
  refine E_iload_n rfl rfl ?_
  exact E_iret rfl rfl
theorem c266_X4_wanting : Ev ab_Z0 1 64 [.ref 1, .int 1] w0 (some (.int 0), w0) := by
  refine Ef.in (md := mX4_wanting) (L := [some (.ref 1), some (.int 1), none, none]) rfl (Nat.le_of_ble_eq_true rfl) rfl ?_
  refine E_iconst (x := 0) rfl (by decide) ?_
  refine E_istore_n (L2 := [some (.ref 1), some (.int 1), some (.int 0), none]) rfl rfl ?_
  refine E_iconst (x := 0) rfl (by decide) ?_
  refine E_istore_n (L2 := [some (.ref 1), some (.int 1), some (.int 0), some (.int 0)]) rfl rfl ?_
  refine E_iload_n rfl rfl ?_
  refine E_aload_n rfl rfl ?_
  refine E_getfield (v := .int 0) rfl rfl rfl (by decide) rfl ?_
  refine E_ic (t := 36) (b := true) rfl rfl (by decide) ?_
  refine E_iload_n rfl rfl ?_
  exact E_iret rfl rfl
theorem c267_X4_wanting : Ev ab_Z0 1 64 [.ref 1, .int 2] w0 (some (.int 0), w0) := by
  refine Ef.in (md := mX4_wanting) (L := [some (.ref 1), some (.int 2), none, none]) rfl (Nat.le_of_ble_eq_true rfl) rfl ?_
  refine E_iconst (x := 0) rfl (by decide) ?_
  refine E_istore_n (L2 := [some (.ref 1), some (.int 2), some (.int 0), none]) rfl rfl ?_
  refine E_iconst (x := 0) rfl (by decide) ?_
  refine E_istore_n (L2 := [some (.ref 1), some (.int 2), some (.int 0), some (.int 0)]) rfl rfl ?_
  refine E_iload_n rfl rfl ?_
  refine E_aload_n rfl rfl ?_
  refine E_getfield (v := .int 0) rfl rfl rfl (by decide) rfl ?_
  refine E_ic (t := 36) (b := true) rfl rfl (by decide) ?_
  refine E_iload_n rfl rfl ?_
  exact E_iret rfl rfl
theorem c268_X4_wanting : Ev ab_Z0 1 64 [.ref 1, .int 3] w0 (some (.int 0), w0) := by
  refine Ef.in (md := mX4_wanting) (L := [some (.ref 1), some (.int 3), none, none]) rfl (Nat.le_of_ble_eq_true rfl) rfl ?_
  refine E_iconst (x := 0) rfl (by decide) ?_
  refine E_istore_n (L2 := [some (.ref 1), some (.int 3), some (.int 0), none]) rfl rfl ?_
  refine E_iconst (x := 0) rfl (by decide) ?_
  refine E_istore_n (L2 := [some (.ref 1), some (.int 3), some (.int 0), some (.int 0)]) rfl rfl ?_
  refine E_iload_n rfl rfl ?_
  refine E_aload_n rfl rfl ?_
  refine E_getfield (v := .int 0) rfl rfl rfl (by decide) rfl ?_
  refine E_ic (t := 36) (b := true) rfl rfl (by decide) ?_
  refine E_iload_n rfl rfl ?_
  exact E_iret rfl rfl
theorem c269_X4_wanting : Ev ab_Z0 1 64 [.ref 1, .int 4] w0 (some (.int 0), w0) := by
  refine Ef.in (md := mX4_wanting) (L := [some (.ref 1), some (.int 4), none, none]) rfl (Nat.le_of_ble_eq_true rfl) rfl ?_
  refine E_iconst (x := 0) rfl (by decide) ?_
  refine E_istore_n (L2 := [some (.ref 1), some (.int 4), some (.int 0), none]) rfl rfl ?_
  refine E_iconst (x := 0) rfl (by decide) ?_
  refine E_istore_n (L2 := [some (.ref 1), some (.int 4), some (.int 0), some (.int 0)]) rfl rfl ?_
  refine E_iload_n rfl rfl ?_
  refine E_aload_n rfl rfl ?_
  refine E_getfield (v := .int 0) rfl rfl rfl (by decide) rfl ?_
  refine E_ic (t := 36) (b := true) rfl rfl (by decide) ?_
  refine E_iload_n rfl rfl ?_
  exact E_iret rfl rfl
theorem c270_X4_wanting : Ev ab_Z0 1 64 [.ref 1, .int 5] w0 (some (.int 0), w0) := by
  refine Ef.in (md := mX4_wanting) (L := [some (.ref 1), some (.int 5), none, none]) rfl (Nat.le_of_ble_eq_true rfl) rfl ?_
  refine E_iconst (x := 0) rfl (by decide) ?_
  refine E_istore_n (L2 := [some (.ref 1), some (.int 5), some (.int 0), none]) rfl rfl ?_
  refine E_iconst (x := 0) rfl (by decide) ?_
  refine E_istore_n (L2 := [some (.ref 1), some (.int 5), some (.int 0), some (.int 0)]) rfl rfl ?_
  refine E_iload_n rfl rfl ?_
  refine E_aload_n rfl rfl ?_
  refine E_getfield (v := .int 0) rfl rfl rfl (by decide) rfl ?_
  refine E_ic (t := 36) (b := true) rfl rfl (by decide) ?_
  refine E_iload_n rfl rfl ?_
  exact E_iret rfl rfl
theorem c271_X4_wanting : Ev ab_Z0 1 64 [.ref 1, .int 6] w0 (some (.int 0), w0) := by
  refine Ef.in (md := mX4_wanting) (L := [some (.ref 1), some (.int 6), none, none]) rfl (Nat.le_of_ble_eq_true rfl) rfl ?_
  refine E_iconst (x := 0) rfl (by decide) ?_
  refine E_istore_n (L2 := [some (.ref 1), some (.int 6), some (.int 0), none]) rfl rfl ?_
  refine E_iconst (x := 0) rfl (by decide) ?_
  refine E_istore_n (L2 := [some (.ref 1), some (.int 6), some (.int 0), some (.int 0)]) rfl rfl ?_
  refine E_iload_n rfl rfl ?_
  refine E_aload_n rfl rfl ?_
  refine E_getfield (v := .int 0) rfl rfl rfl (by decide) rfl ?_
  refine E_ic (t := 36) (b := true) rfl rfl (by decide) ?_
  refine E_iload_n rfl rfl ?_
  exact E_iret rfl rfl
theorem c272_X4_wanting : Ev ab_Z0 1 64 [.ref 1, .int 7] w0 (some (.int 0), w0) := by
  refine Ef.in (md := mX4_wanting) (L := [some (.ref 1), some (.int 7), none, none]) rfl (Nat.le_of_ble_eq_true rfl) rfl ?_
  refine E_iconst (x := 0) rfl (by decide) ?_
  refine E_istore_n (L2 := [some (.ref 1), some (.int 7), some (.int 0), none]) rfl rfl ?_
  refine E_iconst (x := 0) rfl (by decide) ?_
  refine E_istore_n (L2 := [some (.ref 1), some (.int 7), some (.int 0), some (.int 0)]) rfl rfl ?_
  refine E_iload_n rfl rfl ?_
  refine E_aload_n rfl rfl ?_
  refine E_getfield (v := .int 0) rfl rfl rfl (by decide) rfl ?_
  refine E_ic (t := 36) (b := true) rfl rfl (by decide) ?_
  refine E_iload_n rfl rfl ?_
  exact E_iret rfl rfl
theorem c264_X5_crowd : Ev ab_Z0 2 127 [.ref 0] w0 (some (.int (-1)), w0) := by
  refine Ef.in (md := mX5_crowd) (L := [some (.ref 0), none, none, none, none]) rfl (Nat.le_of_ble_eq_true rfl) rfl ?_
  refine E_iconst (x := (-1)) rfl (by decide) ?_
  refine E_istore_n (L2 := [some (.ref 0), some (.int (-1)), none, none, none]) rfl rfl ?_
  refine E_iconst (x := 0) rfl (by decide) ?_
  refine E_istore_n (L2 := [some (.ref 0), some (.int (-1)), some (.int 0), none, none]) rfl rfl ?_
  refine E_iconst (x := 0) rfl (by decide) ?_
  refine E_istore_n (L2 := [some (.ref 0), some (.int (-1)), some (.int 0), some (.int 0), none]) rfl rfl ?_
  refine E_iload_n rfl rfl ?_
  refine E_bipush (x := 8) rfl (by decide) ?_
  refine E_ic (t := 39) (b := false) rfl rfl (by decide) ?_
  refine E_aload_n rfl rfl ?_
  refine E_getfield (v := .ref 1) rfl rfl rfl (by decide) rfl ?_
  refine E_iload_n rfl rfl ?_
  refine E_callV (v := some (.int 0)) (As := [.ref 1, .int 0]) (r0 := []) (cs2 := w0) rfl rfl rfl (Nat.le_of_ble_eq_true rfl) rfl rfl c265_X4_wanting (by decide) rfl ?_
  refine E_istore (L2 := [some (.ref 0), some (.int (-1)), some (.int 0), some (.int 0), some (.int 0)]) rfl rfl ?_
  refine E_iload rfl rfl ?_
  refine E_iload_n rfl rfl ?_
  refine E_ic (t := 33) (b := true) rfl rfl (by decide) ?_
  refine E_iinc (y := 1) (L2 := [some (.ref 0), some (.int (-1)), some (.int 0), some (.int 1), some (.int 0)]) rfl rfl (by decide) rfl ?_
  refine E_goto (t := 6) rfl rfl ?_
  refine E_iload_n rfl rfl ?_
  refine E_bipush (x := 8) rfl (by decide) ?_
  refine E_ic (t := 39) (b := false) rfl rfl (by decide) ?_
  refine E_aload_n rfl rfl ?_
  refine E_getfield (v := .ref 1) rfl rfl rfl (by decide) rfl ?_
  refine E_iload_n rfl rfl ?_
  refine E_callV (v := some (.int 0)) (As := [.ref 1, .int 1]) (r0 := []) (cs2 := w0) rfl rfl rfl (Nat.le_of_ble_eq_true rfl) rfl rfl c266_X4_wanting (by decide) rfl ?_
  refine E_istore (L2 := [some (.ref 0), some (.int (-1)), some (.int 0), some (.int 1), some (.int 0)]) rfl rfl ?_
  refine E_iload rfl rfl ?_
  refine E_iload_n rfl rfl ?_
  refine E_ic (t := 33) (b := true) rfl rfl (by decide) ?_
  refine E_iinc (y := 2) (L2 := [some (.ref 0), some (.int (-1)), some (.int 0), some (.int 2), some (.int 0)]) rfl rfl (by decide) rfl ?_
  refine E_goto (t := 6) rfl rfl ?_
  refine E_iload_n rfl rfl ?_
  refine E_bipush (x := 8) rfl (by decide) ?_
  refine E_ic (t := 39) (b := false) rfl rfl (by decide) ?_
  refine E_aload_n rfl rfl ?_
  refine E_getfield (v := .ref 1) rfl rfl rfl (by decide) rfl ?_
  refine E_iload_n rfl rfl ?_
  refine E_callV (v := some (.int 0)) (As := [.ref 1, .int 2]) (r0 := []) (cs2 := w0) rfl rfl rfl (Nat.le_of_ble_eq_true rfl) rfl rfl c267_X4_wanting (by decide) rfl ?_
  refine E_istore (L2 := [some (.ref 0), some (.int (-1)), some (.int 0), some (.int 2), some (.int 0)]) rfl rfl ?_
  refine E_iload rfl rfl ?_
  refine E_iload_n rfl rfl ?_
  refine E_ic (t := 33) (b := true) rfl rfl (by decide) ?_
  refine E_iinc (y := 3) (L2 := [some (.ref 0), some (.int (-1)), some (.int 0), some (.int 3), some (.int 0)]) rfl rfl (by decide) rfl ?_
  refine E_goto (t := 6) rfl rfl ?_
  refine E_iload_n rfl rfl ?_
  refine E_bipush (x := 8) rfl (by decide) ?_
  refine E_ic (t := 39) (b := false) rfl rfl (by decide) ?_
  refine E_aload_n rfl rfl ?_
  refine E_getfield (v := .ref 1) rfl rfl rfl (by decide) rfl ?_
  refine E_iload_n rfl rfl ?_
  refine E_callV (v := some (.int 0)) (As := [.ref 1, .int 3]) (r0 := []) (cs2 := w0) rfl rfl rfl (Nat.le_of_ble_eq_true rfl) rfl rfl c268_X4_wanting (by decide) rfl ?_
  refine E_istore (L2 := [some (.ref 0), some (.int (-1)), some (.int 0), some (.int 3), some (.int 0)]) rfl rfl ?_
  refine E_iload rfl rfl ?_
  refine E_iload_n rfl rfl ?_
  refine E_ic (t := 33) (b := true) rfl rfl (by decide) ?_
  refine E_iinc (y := 4) (L2 := [some (.ref 0), some (.int (-1)), some (.int 0), some (.int 4), some (.int 0)]) rfl rfl (by decide) rfl ?_
  refine E_goto (t := 6) rfl rfl ?_
  refine E_iload_n rfl rfl ?_
  refine E_bipush (x := 8) rfl (by decide) ?_
  refine E_ic (t := 39) (b := false) rfl rfl (by decide) ?_
  refine E_aload_n rfl rfl ?_
  refine E_getfield (v := .ref 1) rfl rfl rfl (by decide) rfl ?_
  refine E_iload_n rfl rfl ?_
  refine E_callV (v := some (.int 0)) (As := [.ref 1, .int 4]) (r0 := []) (cs2 := w0) rfl rfl rfl (Nat.le_of_ble_eq_true rfl) rfl rfl c269_X4_wanting (by decide) rfl ?_
  refine E_istore (L2 := [some (.ref 0), some (.int (-1)), some (.int 0), some (.int 4), some (.int 0)]) rfl rfl ?_
  refine E_iload rfl rfl ?_
  refine E_iload_n rfl rfl ?_
  refine E_ic (t := 33) (b := true) rfl rfl (by decide) ?_
  refine E_iinc (y := 5) (L2 := [some (.ref 0), some (.int (-1)), some (.int 0), some (.int 5), some (.int 0)]) rfl rfl (by decide) rfl ?_
  refine E_goto (t := 6) rfl rfl ?_
  refine E_iload_n rfl rfl ?_
  refine E_bipush (x := 8) rfl (by decide) ?_
  refine E_ic (t := 39) (b := false) rfl rfl (by decide) ?_
  refine E_aload_n rfl rfl ?_
  refine E_getfield (v := .ref 1) rfl rfl rfl (by decide) rfl ?_
  refine E_iload_n rfl rfl ?_
  refine E_callV (v := some (.int 0)) (As := [.ref 1, .int 5]) (r0 := []) (cs2 := w0) rfl rfl rfl (Nat.le_of_ble_eq_true rfl) rfl rfl c270_X4_wanting (by decide) rfl ?_
  refine E_istore (L2 := [some (.ref 0), some (.int (-1)), some (.int 0), some (.int 5), some (.int 0)]) rfl rfl ?_
  refine E_iload rfl rfl ?_
  refine E_iload_n rfl rfl ?_
  refine E_ic (t := 33) (b := true) rfl rfl (by decide) ?_
  refine E_iinc (y := 6) (L2 := [some (.ref 0), some (.int (-1)), some (.int 0), some (.int 6), some (.int 0)]) rfl rfl (by decide) rfl ?_
  refine E_goto (t := 6) rfl rfl ?_
  refine E_iload_n rfl rfl ?_
  refine E_bipush (x := 8) rfl (by decide) ?_
  refine E_ic (t := 39) (b := false) rfl rfl (by decide) ?_
  refine E_aload_n rfl rfl ?_
  refine E_getfield (v := .ref 1) rfl rfl rfl (by decide) rfl ?_
  refine E_iload_n rfl rfl ?_
  refine E_callV (v := some (.int 0)) (As := [.ref 1, .int 6]) (r0 := []) (cs2 := w0) rfl rfl rfl (Nat.le_of_ble_eq_true rfl) rfl rfl c271_X4_wanting (by decide) rfl ?_
  refine E_istore (L2 := [some (.ref 0), some (.int (-1)), some (.int 0), some (.int 6), some (.int 0)]) rfl rfl ?_
  refine E_iload rfl rfl ?_
  refine E_iload_n rfl rfl ?_
  refine E_ic (t := 33) (b := true) rfl rfl (by decide) ?_
  refine E_iinc (y := 7) (L2 := [some (.ref 0), some (.int (-1)), some (.int 0), some (.int 7), some (.int 0)]) rfl rfl (by decide) rfl ?_
  refine E_goto (t := 6) rfl rfl ?_
  refine E_iload_n rfl rfl ?_
  refine E_bipush (x := 8) rfl (by decide) ?_
  refine E_ic (t := 39) (b := false) rfl rfl (by decide) ?_
  refine E_aload_n rfl rfl ?_
  refine E_getfield (v := .ref 1) rfl rfl rfl (by decide) rfl ?_
  refine E_iload_n rfl rfl ?_
  refine E_callV (v := some (.int 0)) (As := [.ref 1, .int 7]) (r0 := []) (cs2 := w0) rfl rfl rfl (Nat.le_of_ble_eq_true rfl) rfl rfl c272_X4_wanting (by decide) rfl ?_
  refine E_istore (L2 := [some (.ref 0), some (.int (-1)), some (.int 0), some (.int 7), some (.int 0)]) rfl rfl ?_
  refine E_iload rfl rfl ?_
  refine E_iload_n rfl rfl ?_
  refine E_ic (t := 33) (b := true) rfl rfl (by decide) ?_
  refine E_iinc (y := 8) (L2 := [some (.ref 0), some (.int (-1)), some (.int 0), some (.int 8), some (.int 0)]) rfl rfl (by decide) rfl ?_
  refine E_goto (t := 6) rfl rfl ?_
  refine E_iload_n rfl rfl ?_
  refine E_bipush (x := 8) rfl (by decide) ?_
  refine E_ic (t := 39) (b := true) rfl rfl (by decide) ?_
  refine E_iload_n rfl rfl ?_
  exact E_iret rfl rfl
theorem c263_X5_dear : Ev ab_Z0 5 101 [.ref 0, .int 1] w0 (some (.int (-1)), w0) := by
  refine Ef.in (md := mX5_dear) (L := [some (.ref 0), some (.int 1)]) rfl (Nat.le_of_ble_eq_true rfl) rfl ?_
  refine E_iload_n rfl rfl ?_
  refine E_ls (off := 32) (t := 33) rfl (by decide) (by decide) rfl ?_
  refine E_aload_n rfl rfl ?_
  refine E_callV (v := some (.int (-1))) (As := [.ref 0]) (r0 := []) (cs2 := w0) rfl rfl rfl (Nat.le_of_ble_eq_true rfl) rfl rfl c264_X5_crowd (by decide) rfl ?_
  exact E_iret rfl rfl
theorem c273_X6_dear : Ev ab_Z0 5 191 [.ref 65, .int 1] w0 (some (.int (-1)), w0) := Ev.by (f := 275) (by decide +kernel)
theorem f_dear_1 (a1 : Int32) (ha1h : a1.toInt ≤ -1) : p1_P 5 101 5 191 [.ref 0, .int a1] [.ref 65, .int a1] :=
  ⟨(-15), (w0.set 48 (.inl [0, 0, 0, 0, 0, 1, 0, 0])), ((w0.set 48 (.inl [0, 0, 0, 0, 0, 1, 0, 0])).set 66 (.inl [0, 0, 0, 0, 0, 1, 0, 0])), by
    refine Ef.in (md := mX5_dear) (L := [some (.ref 0), some (.int a1)]) rfl (Nat.le_of_ble_eq_true rfl) rfl ?_
    refine E_iload_n rfl rfl ?_
    refine E_ls (off := 37) (t := 38) rfl (by decide) (by show Op.lookupswitch.offset [(0, 27), (1, 32)] 37 a1.toInt = 37; rw [Op.lookupswitch.offset_cons, if_neg (by omega), Op.lookupswitch.offset_cons, if_neg (by omega)]; rfl) rfl ?_
    refine E_aload_n rfl rfl ?_
    refine E_iconst (x := 5) rfl (by decide) ?_
    refine E_callV (v := some (.int (-5))) (As := [.ref 0, .int 5]) (r0 := []) (cs2 := (w0.set 48 (.inl [0, 0, 0, 0, 0, 1, 0, 0]))) rfl rfl rfl (Nat.le_of_ble_eq_true rfl) rfl rfl c200_X5_refuse (by decide) (by simp only [List.length_set]) ?_
    refine E_bipush (x := 10) rfl (by decide) ?_
    refine E_isub (z := (-15)) rfl (by decide) ?_
    exact E_iret rfl rfl, by
    refine Ef.in (md := mX6_dear) (L := [some (.ref 65), some (.int a1), none, none]) rfl (Nat.le_of_ble_eq_true rfl) rfl ?_
    refine E_iload_n rfl rfl ?_
    refine E_if (t := 9) (b := true) rfl rfl ((cn_lt (rfl : (a1).toInt = (a1).toInt) (by decide : (0 : Int32).toInt = 0)).trans (decide_eq_true (by omega))) ?_
    refine E_aload_n rfl rfl ?_
    refine E_bipush (x := (-5)) rfl (by decide) ?_
    refine E_callV (v := some (.int (-15))) (As := [.ref 65, .int (-5)]) (r0 := []) (cs2 := ((w0.set 48 (.inl [0, 0, 0, 0, 0, 1, 0, 0])).set 66 (.inl [0, 0, 0, 0, 0, 1, 0, 0]))) rfl rfl rfl (Nat.le_of_ble_eq_true rfl) rfl rfl c229_X6_noTen (by decide) (by simp only [List.length_set]) ?_
    exact E_iret rfl rfl, (by simp only [List.length_set]; rfl), (by simp only [List.length_set]; rfl), ((ab_szs rfl).trans ((ab_szs rfl).trans rfl)), fun _ => rfl⟩
theorem f_dear_2 : p1_P 5 101 5 191 [.ref 0, .int 0] [.ref 65, .int 0] :=
  ⟨(-1), w0, w0, by
    exact c259_X5_dear, by
    exact c261_X6_dear, rfl, rfl, rfl, fun _ => rfl⟩
theorem f_dear_3 : p1_P 5 101 5 191 [.ref 0, .int 1] [.ref 65, .int 1] :=
  ⟨(-1), w0, w0, by
    exact c263_X5_dear, by
    exact c273_X6_dear, rfl, rfl, rfl, fun _ => rfl⟩
theorem f_dear_4 (a1 : Int32) (ha1l : (2 : Int) ≤ a1.toInt) : p1_P 5 101 5 191 [.ref 0, .int a1] [.ref 65, .int a1] :=
  ⟨(-15), (w0.set 48 (.inl [0, 0, 0, 0, 0, 1, 0, 0])), ((w0.set 48 (.inl [0, 0, 0, 0, 0, 1, 0, 0])).set 66 (.inl [0, 0, 0, 0, 0, 1, 0, 0])), by
    refine Ef.in (md := mX5_dear) (L := [some (.ref 0), some (.int a1)]) rfl (Nat.le_of_ble_eq_true rfl) rfl ?_
    refine E_iload_n rfl rfl ?_
    refine E_ls (off := 37) (t := 38) rfl (by decide) (by show Op.lookupswitch.offset [(0, 27), (1, 32)] 37 a1.toInt = 37; rw [Op.lookupswitch.offset_cons, if_neg (by omega), Op.lookupswitch.offset_cons, if_neg (by omega)]; rfl) rfl ?_
    refine E_aload_n rfl rfl ?_
    refine E_iconst (x := 5) rfl (by decide) ?_
    refine E_callV (v := some (.int (-5))) (As := [.ref 0, .int 5]) (r0 := []) (cs2 := (w0.set 48 (.inl [0, 0, 0, 0, 0, 1, 0, 0]))) rfl rfl rfl (Nat.le_of_ble_eq_true rfl) rfl rfl c200_X5_refuse (by decide) (by simp only [List.length_set]) ?_
    refine E_bipush (x := 10) rfl (by decide) ?_
    refine E_isub (z := (-15)) rfl (by decide) ?_
    exact E_iret rfl rfl, by
    refine Ef.in (md := mX6_dear) (L := [some (.ref 65), some (.int a1), none, none]) rfl (Nat.le_of_ble_eq_true rfl) rfl ?_
    refine E_iload_n rfl rfl ?_
    refine E_if (t := 9) (b := false) rfl rfl ((cn_lt (rfl : (a1).toInt = (a1).toInt) (by decide : (0 : Int32).toInt = 0)).trans (decide_eq_false (by omega))) ?_
    refine E_iload_n rfl rfl ?_
    refine E_iconst (x := 1) rfl (by decide) ?_
    refine E_ic (t := 16) (b := false) rfl rfl ((cn_le (rfl : (a1).toInt = (a1).toInt) (by decide : (1 : Int32).toInt = 1)).trans (decide_eq_false (by omega))) ?_
    refine E_aload_n rfl rfl ?_
    refine E_bipush (x := (-5)) rfl (by decide) ?_
    refine E_callV (v := some (.int (-15))) (As := [.ref 65, .int (-5)]) (r0 := []) (cs2 := ((w0.set 48 (.inl [0, 0, 0, 0, 0, 1, 0, 0])).set 66 (.inl [0, 0, 0, 0, 0, 1, 0, 0]))) rfl rfl rfl (Nat.le_of_ble_eq_true rfl) rfl rfl c229_X6_noTen (by decide) (by simp only [List.length_set]) ?_
    exact E_iret rfl rfl, (by simp only [List.length_set]; rfl), (by simp only [List.length_set]; rfl), ((ab_szs rfl).trans ((ab_szs rfl).trans rfl)), fun _ => rfl⟩
theorem f_dear (a1 : Int32) : p1_P 5 101 5 191 [.ref 0, .int a1] [.ref 65, .int a1] := by
  rcases ab_ltge a1.toInt (0) with h | h
  · exact f_dear_1 a1 (by omega)
  rcases ab_ltge a1.toInt (1) with h | h
  · obtain rfl : a1 = 0 := Int32.toInt_inj.mp (by rw [show ((0 : Int32).toInt = 0) by decide]; omega)
    exact f_dear_2
  rcases ab_ltge a1.toInt (2) with h | h
  · obtain rfl : a1 = 1 := Int32.toInt_inj.mp (by rw [show ((1 : Int32).toInt = 1) by decide]; omega)
    exact f_dear_3
  exact f_dear_4 a1 (by omega)
