theorem c137_X3_holdPiece : Ev ab_Z0 1 31 [.ref 49, .int (-1)] w0 (none, ((w0.set 49 (.inr (.inr (.inr (3, [.ref 50, .int (-1), .int 0]))))).set 49 (.inr (.inr (.inr (3, [.ref 50, .int (-1), .int 0])))))) := by
  refine Ef.in (md := mX3_holdPiece) (L := [some (.ref 49), some (.int (-1))]) rfl (Nat.le_of_ble_eq_true rfl) rfl ?_
  refine E_aload_n rfl rfl ?_
  refine E_iload_n rfl rfl ?_
  refine E_putfield (cs2 := (w0.set 49 (.inr (.inr (.inr (3, [.ref 50, .int (-1), .int 0])))))) rfl rfl rfl (by decide) (Nat.le_of_ble_eq_true rfl) rfl rfl rfl rfl ?_
  refine E_aload_n rfl rfl ?_
  refine E_iconst (x := 0) rfl (by decide) ?_
  refine E_putfield (cs2 := ((w0.set 49 (.inr (.inr (.inr (3, [.ref 50, .int (-1), .int 0]))))).set 49 (.inr (.inr (.inr (3, [.ref 50, .int (-1), .int 0])))))) rfl rfl rfl (by decide) (Nat.le_of_ble_eq_true rfl) rfl rfl rfl rfl ?_
  exact E_vret rfl rfl
theorem c136_X5_show : Ev ab_Z0 3 80 [.ref 0, .int 0, .int (-1)] w0 (some (.int 0), ((w0.set 49 (.inr (.inr (.inr (3, [.ref 50, .int (-1), .int 0]))))).set 49 (.inr (.inr (.inr (3, [.ref 50, .int (-1), .int 0])))))) := by
  refine Ef.in (md := mX5_show) (L := [some (.ref 0), some (.int 0), some (.int (-1))]) rfl (Nat.le_of_ble_eq_true rfl) rfl ?_
  refine E_iload_n rfl rfl ?_
  refine E_callS (v := some (.int 1)) (As := [.int 0]) (r0 := []) (cs2 := w0) rfl rfl rfl (Nat.le_of_ble_eq_true rfl) rfl c10_X5_isShelf (by decide) rfl ?_
  refine E_if (t := 23) (b := false) rfl rfl (by decide) ?_
  refine E_iload_n rfl rfl ?_
  refine E_iconst (x := (-1)) rfl (by decide) ?_
  refine E_ic (t := 29) (b := true) rfl rfl (by decide) ?_
  refine E_aload_n rfl rfl ?_
  refine E_getfield (v := .ref 31) rfl rfl rfl (by decide) rfl ?_
  refine E_iload_n rfl rfl ?_
  refine E_aaload (b := 49) (j := 0) rfl rfl (by decide) (by decide) rfl ?_
  refine E_iload_n rfl rfl ?_
  refine E_callV (v := none) (As := [.ref 49, .int (-1)]) (r0 := []) (cs2 := ((w0.set 49 (.inr (.inr (.inr (3, [.ref 50, .int (-1), .int 0]))))).set 49 (.inr (.inr (.inr (3, [.ref 50, .int (-1), .int 0])))))) rfl rfl rfl (Nat.le_of_ble_eq_true rfl) rfl rfl c137_X3_holdPiece (by decide) (by simp only [List.length_set]) ?_
  refine E_iload_n rfl rfl ?_
  refine E_iconst (x := (-1)) rfl (by decide) ?_
  refine E_ic (t := 48) (b := false) rfl rfl (by decide) ?_
  refine E_iconst (x := 0) rfl (by decide) ?_
  refine E_goto (t := 49) rfl rfl ?_
  exact E_iret rfl rfl
theorem c139_X6_isShelf : Ev ab_Z0 1 131 [.ref 65, .int 0] ((w0.set 49 (.inr (.inr (.inr (3, [.ref 50, .int (-1), .int 0]))))).set 49 (.inr (.inr (.inr (3, [.ref 50, .int (-1), .int 0]))))) (some (.int 1), ((w0.set 49 (.inr (.inr (.inr (3, [.ref 50, .int (-1), .int 0]))))).set 49 (.inr (.inr (.inr (3, [.ref 50, .int (-1), .int 0])))))) := by
  refine Ef.in (md := mX6_isShelf) (L := [some (.ref 65), some (.int 0)]) rfl (Nat.le_of_ble_eq_true rfl) rfl ?_
  refine E_iload_n rfl rfl ?_
  refine E_if (t := 14) (b := false) rfl rfl (by decide) ?_
  refine E_iload_n rfl rfl ?_
  refine E_bipush (x := 8) rfl (by decide) ?_
  refine E_ic (t := 14) (b := false) rfl rfl (by decide) ?_
  refine E_iconst (x := 1) rfl (by decide) ?_
  refine E_goto (t := 15) rfl rfl ?_
  exact E_iret rfl rfl
theorem c138_X6_show : Ev ab_Z0 2 139 [.ref 65, .int 0, .int (-1)] ((w0.set 49 (.inr (.inr (.inr (3, [.ref 50, .int (-1), .int 0]))))).set 49 (.inr (.inr (.inr (3, [.ref 50, .int (-1), .int 0]))))) (some (.int 0), ((((w0.set 49 (.inr (.inr (.inr (3, [.ref 50, .int (-1), .int 0]))))).set 49 (.inr (.inr (.inr (3, [.ref 50, .int (-1), .int 0]))))).set 76 (.inl [0, 0, 0, 0, 0, 0, 0, 0])).set 79 (.inl [(-1), 0, 0, 0, 0, 0, 0, 0]))) := by
  refine Ef.in (md := mX6_show) (L := [some (.ref 65), some (.int 0), some (.int (-1))]) rfl (Nat.le_of_ble_eq_true rfl) rfl ?_
  refine E_aload_n rfl rfl ?_
  refine E_iload_n rfl rfl ?_
  refine E_callV (v := some (.int 1)) (As := [.ref 65, .int 0]) (r0 := []) (cs2 := ((w0.set 49 (.inr (.inr (.inr (3, [.ref 50, .int (-1), .int 0]))))).set 49 (.inr (.inr (.inr (3, [.ref 50, .int (-1), .int 0])))))) rfl rfl rfl (Nat.le_of_ble_eq_true rfl) rfl rfl c139_X6_isShelf (by decide) rfl ?_
  refine E_if (t := 21) (b := false) rfl rfl (by decide) ?_
  refine E_iload_n rfl rfl ?_
  refine E_iconst (x := (-1)) rfl (by decide) ?_
  refine E_ic (t := 27) (b := true) rfl rfl (by decide) ?_
  refine E_aload_n rfl rfl ?_
  refine E_getfield (v := .ref 76) rfl rfl rfl (by decide) rfl ?_
  refine E_iload_n rfl rfl ?_
  refine E_iload_n rfl rfl ?_
  refine E_iconst (x := (-1)) rfl (by decide) ?_
  refine E_ic (t := 41) (b := false) rfl rfl (by decide) ?_
  refine E_iconst (x := 0) rfl (by decide) ?_
  refine E_goto (t := 42) rfl rfl ?_
  refine E_iastore (j := 0) (cs2 := (((w0.set 49 (.inr (.inr (.inr (3, [.ref 50, .int (-1), .int 0]))))).set 49 (.inr (.inr (.inr (3, [.ref 50, .int (-1), .int 0]))))).set 76 (.inl [0, 0, 0, 0, 0, 0, 0, 0]))) rfl rfl (by decide) (by decide) (Nat.le_of_ble_eq_true rfl) rfl ?_
  refine E_aload_n rfl rfl ?_
  refine E_getfield (v := .ref 79) rfl rfl rfl (by decide) rfl ?_
  refine E_iload_n rfl rfl ?_
  refine E_iload_n rfl rfl ?_
  refine E_iastore (j := 0) (cs2 := ((((w0.set 49 (.inr (.inr (.inr (3, [.ref 50, .int (-1), .int 0]))))).set 49 (.inr (.inr (.inr (3, [.ref 50, .int (-1), .int 0]))))).set 76 (.inl [0, 0, 0, 0, 0, 0, 0, 0])).set 79 (.inl [(-1), 0, 0, 0, 0, 0, 0, 0]))) rfl rfl (by decide) (by decide) (Nat.le_of_ble_eq_true rfl) rfl ?_
  refine E_iload_n rfl rfl ?_
  refine E_iconst (x := (-1)) rfl (by decide) ?_
  refine E_ic (t := 59) (b := false) rfl rfl (by decide) ?_
  refine E_iconst (x := 0) rfl (by decide) ?_
  refine E_goto (t := 60) rfl rfl ?_
  exact E_iret rfl rfl
theorem c141_X3_holdPiece : Ev ab_Z0 1 31 [.ref 51, .int (-1)] w0 (none, ((w0.set 51 (.inr (.inr (.inr (3, [.ref 52, .int (-1), .int 0]))))).set 51 (.inr (.inr (.inr (3, [.ref 52, .int (-1), .int 0])))))) := by
  refine Ef.in (md := mX3_holdPiece) (L := [some (.ref 51), some (.int (-1))]) rfl (Nat.le_of_ble_eq_true rfl) rfl ?_
  refine E_aload_n rfl rfl ?_
  refine E_iload_n rfl rfl ?_
  refine E_putfield (cs2 := (w0.set 51 (.inr (.inr (.inr (3, [.ref 52, .int (-1), .int 0])))))) rfl rfl rfl (by decide) (Nat.le_of_ble_eq_true rfl) rfl rfl rfl rfl ?_
  refine E_aload_n rfl rfl ?_
  refine E_iconst (x := 0) rfl (by decide) ?_
  refine E_putfield (cs2 := ((w0.set 51 (.inr (.inr (.inr (3, [.ref 52, .int (-1), .int 0]))))).set 51 (.inr (.inr (.inr (3, [.ref 52, .int (-1), .int 0])))))) rfl rfl rfl (by decide) (Nat.le_of_ble_eq_true rfl) rfl rfl rfl rfl ?_
  exact E_vret rfl rfl
theorem c140_X5_show : Ev ab_Z0 3 80 [.ref 0, .int 1, .int (-1)] w0 (some (.int 0), ((w0.set 51 (.inr (.inr (.inr (3, [.ref 52, .int (-1), .int 0]))))).set 51 (.inr (.inr (.inr (3, [.ref 52, .int (-1), .int 0])))))) := by
  refine Ef.in (md := mX5_show) (L := [some (.ref 0), some (.int 1), some (.int (-1))]) rfl (Nat.le_of_ble_eq_true rfl) rfl ?_
  refine E_iload_n rfl rfl ?_
  refine E_callS (v := some (.int 1)) (As := [.int 1]) (r0 := []) (cs2 := w0) rfl rfl rfl (Nat.le_of_ble_eq_true rfl) rfl c12_X5_isShelf (by decide) rfl ?_
  refine E_if (t := 23) (b := false) rfl rfl (by decide) ?_
  refine E_iload_n rfl rfl ?_
  refine E_iconst (x := (-1)) rfl (by decide) ?_
  refine E_ic (t := 29) (b := true) rfl rfl (by decide) ?_
  refine E_aload_n rfl rfl ?_
  refine E_getfield (v := .ref 31) rfl rfl rfl (by decide) rfl ?_
  refine E_iload_n rfl rfl ?_
  refine E_aaload (b := 51) (j := 1) rfl rfl (by decide) (by decide) rfl ?_
  refine E_iload_n rfl rfl ?_
  refine E_callV (v := none) (As := [.ref 51, .int (-1)]) (r0 := []) (cs2 := ((w0.set 51 (.inr (.inr (.inr (3, [.ref 52, .int (-1), .int 0]))))).set 51 (.inr (.inr (.inr (3, [.ref 52, .int (-1), .int 0])))))) rfl rfl rfl (Nat.le_of_ble_eq_true rfl) rfl rfl c141_X3_holdPiece (by decide) (by simp only [List.length_set]) ?_
  refine E_iload_n rfl rfl ?_
  refine E_iconst (x := (-1)) rfl (by decide) ?_
  refine E_ic (t := 48) (b := false) rfl rfl (by decide) ?_
  refine E_iconst (x := 0) rfl (by decide) ?_
  refine E_goto (t := 49) rfl rfl ?_
  exact E_iret rfl rfl
theorem c143_X6_isShelf : Ev ab_Z0 1 131 [.ref 65, .int 1] ((w0.set 51 (.inr (.inr (.inr (3, [.ref 52, .int (-1), .int 0]))))).set 51 (.inr (.inr (.inr (3, [.ref 52, .int (-1), .int 0]))))) (some (.int 1), ((w0.set 51 (.inr (.inr (.inr (3, [.ref 52, .int (-1), .int 0]))))).set 51 (.inr (.inr (.inr (3, [.ref 52, .int (-1), .int 0])))))) := by
  refine Ef.in (md := mX6_isShelf) (L := [some (.ref 65), some (.int 1)]) rfl (Nat.le_of_ble_eq_true rfl) rfl ?_
  refine E_iload_n rfl rfl ?_
  refine E_if (t := 14) (b := false) rfl rfl (by decide) ?_
  refine E_iload_n rfl rfl ?_
  refine E_bipush (x := 8) rfl (by decide) ?_
  refine E_ic (t := 14) (b := false) rfl rfl (by decide) ?_
  refine E_iconst (x := 1) rfl (by decide) ?_
  refine E_goto (t := 15) rfl rfl ?_
  exact E_iret rfl rfl
theorem c142_X6_show : Ev ab_Z0 2 139 [.ref 65, .int 1, .int (-1)] ((w0.set 51 (.inr (.inr (.inr (3, [.ref 52, .int (-1), .int 0]))))).set 51 (.inr (.inr (.inr (3, [.ref 52, .int (-1), .int 0]))))) (some (.int 0), ((((w0.set 51 (.inr (.inr (.inr (3, [.ref 52, .int (-1), .int 0]))))).set 51 (.inr (.inr (.inr (3, [.ref 52, .int (-1), .int 0]))))).set 76 (.inl [0, 0, 0, 0, 0, 0, 0, 0])).set 79 (.inl [0, (-1), 0, 0, 0, 0, 0, 0]))) := by
  refine Ef.in (md := mX6_show) (L := [some (.ref 65), some (.int 1), some (.int (-1))]) rfl (Nat.le_of_ble_eq_true rfl) rfl ?_
  refine E_aload_n rfl rfl ?_
  refine E_iload_n rfl rfl ?_
  refine E_callV (v := some (.int 1)) (As := [.ref 65, .int 1]) (r0 := []) (cs2 := ((w0.set 51 (.inr (.inr (.inr (3, [.ref 52, .int (-1), .int 0]))))).set 51 (.inr (.inr (.inr (3, [.ref 52, .int (-1), .int 0])))))) rfl rfl rfl (Nat.le_of_ble_eq_true rfl) rfl rfl c143_X6_isShelf (by decide) rfl ?_
  refine E_if (t := 21) (b := false) rfl rfl (by decide) ?_
  refine E_iload_n rfl rfl ?_
  refine E_iconst (x := (-1)) rfl (by decide) ?_
  refine E_ic (t := 27) (b := true) rfl rfl (by decide) ?_
  refine E_aload_n rfl rfl ?_
  refine E_getfield (v := .ref 76) rfl rfl rfl (by decide) rfl ?_
  refine E_iload_n rfl rfl ?_
  refine E_iload_n rfl rfl ?_
  refine E_iconst (x := (-1)) rfl (by decide) ?_
  refine E_ic (t := 41) (b := false) rfl rfl (by decide) ?_
  refine E_iconst (x := 0) rfl (by decide) ?_
  refine E_goto (t := 42) rfl rfl ?_
  refine E_iastore (j := 1) (cs2 := (((w0.set 51 (.inr (.inr (.inr (3, [.ref 52, .int (-1), .int 0]))))).set 51 (.inr (.inr (.inr (3, [.ref 52, .int (-1), .int 0]))))).set 76 (.inl [0, 0, 0, 0, 0, 0, 0, 0]))) rfl rfl (by decide) (by decide) (Nat.le_of_ble_eq_true rfl) rfl ?_
  refine E_aload_n rfl rfl ?_
  refine E_getfield (v := .ref 79) rfl rfl rfl (by decide) rfl ?_
  refine E_iload_n rfl rfl ?_
  refine E_iload_n rfl rfl ?_
  refine E_iastore (j := 1) (cs2 := ((((w0.set 51 (.inr (.inr (.inr (3, [.ref 52, .int (-1), .int 0]))))).set 51 (.inr (.inr (.inr (3, [.ref 52, .int (-1), .int 0]))))).set 76 (.inl [0, 0, 0, 0, 0, 0, 0, 0])).set 79 (.inl [0, (-1), 0, 0, 0, 0, 0, 0]))) rfl rfl (by decide) (by decide) (Nat.le_of_ble_eq_true rfl) rfl ?_
  refine E_iload_n rfl rfl ?_
  refine E_iconst (x := (-1)) rfl (by decide) ?_
  refine E_ic (t := 59) (b := false) rfl rfl (by decide) ?_
  refine E_iconst (x := 0) rfl (by decide) ?_
  refine E_goto (t := 60) rfl rfl ?_
  exact E_iret rfl rfl
theorem c145_X3_holdPiece : Ev ab_Z0 1 31 [.ref 53, .int (-1)] w0 (none, ((w0.set 53 (.inr (.inr (.inr (3, [.ref 54, .int (-1), .int 0]))))).set 53 (.inr (.inr (.inr (3, [.ref 54, .int (-1), .int 0])))))) := by
  refine Ef.in (md := mX3_holdPiece) (L := [some (.ref 53), some (.int (-1))]) rfl (Nat.le_of_ble_eq_true rfl) rfl ?_
  refine E_aload_n rfl rfl ?_
  refine E_iload_n rfl rfl ?_
  refine E_putfield (cs2 := (w0.set 53 (.inr (.inr (.inr (3, [.ref 54, .int (-1), .int 0])))))) rfl rfl rfl (by decide) (Nat.le_of_ble_eq_true rfl) rfl rfl rfl rfl ?_
  refine E_aload_n rfl rfl ?_
  refine E_iconst (x := 0) rfl (by decide) ?_
  refine E_putfield (cs2 := ((w0.set 53 (.inr (.inr (.inr (3, [.ref 54, .int (-1), .int 0]))))).set 53 (.inr (.inr (.inr (3, [.ref 54, .int (-1), .int 0])))))) rfl rfl rfl (by decide) (Nat.le_of_ble_eq_true rfl) rfl rfl rfl rfl ?_
  exact E_vret rfl rfl
theorem c144_X5_show : Ev ab_Z0 3 80 [.ref 0, .int 2, .int (-1)] w0 (some (.int 0), ((w0.set 53 (.inr (.inr (.inr (3, [.ref 54, .int (-1), .int 0]))))).set 53 (.inr (.inr (.inr (3, [.ref 54, .int (-1), .int 0])))))) := by
  refine Ef.in (md := mX5_show) (L := [some (.ref 0), some (.int 2), some (.int (-1))]) rfl (Nat.le_of_ble_eq_true rfl) rfl ?_
  refine E_iload_n rfl rfl ?_
  refine E_callS (v := some (.int 1)) (As := [.int 2]) (r0 := []) (cs2 := w0) rfl rfl rfl (Nat.le_of_ble_eq_true rfl) rfl c14_X5_isShelf (by decide) rfl ?_
  refine E_if (t := 23) (b := false) rfl rfl (by decide) ?_
  refine E_iload_n rfl rfl ?_
  refine E_iconst (x := (-1)) rfl (by decide) ?_
  refine E_ic (t := 29) (b := true) rfl rfl (by decide) ?_
  refine E_aload_n rfl rfl ?_
  refine E_getfield (v := .ref 31) rfl rfl rfl (by decide) rfl ?_
  refine E_iload_n rfl rfl ?_
  refine E_aaload (b := 53) (j := 2) rfl rfl (by decide) (by decide) rfl ?_
  refine E_iload_n rfl rfl ?_
  refine E_callV (v := none) (As := [.ref 53, .int (-1)]) (r0 := []) (cs2 := ((w0.set 53 (.inr (.inr (.inr (3, [.ref 54, .int (-1), .int 0]))))).set 53 (.inr (.inr (.inr (3, [.ref 54, .int (-1), .int 0])))))) rfl rfl rfl (Nat.le_of_ble_eq_true rfl) rfl rfl c145_X3_holdPiece (by decide) (by simp only [List.length_set]) ?_
  refine E_iload_n rfl rfl ?_
  refine E_iconst (x := (-1)) rfl (by decide) ?_
  refine E_ic (t := 48) (b := false) rfl rfl (by decide) ?_
  refine E_iconst (x := 0) rfl (by decide) ?_
  refine E_goto (t := 49) rfl rfl ?_
  exact E_iret rfl rfl
theorem c147_X6_isShelf : Ev ab_Z0 1 131 [.ref 65, .int 2] ((w0.set 53 (.inr (.inr (.inr (3, [.ref 54, .int (-1), .int 0]))))).set 53 (.inr (.inr (.inr (3, [.ref 54, .int (-1), .int 0]))))) (some (.int 1), ((w0.set 53 (.inr (.inr (.inr (3, [.ref 54, .int (-1), .int 0]))))).set 53 (.inr (.inr (.inr (3, [.ref 54, .int (-1), .int 0])))))) := by
  refine Ef.in (md := mX6_isShelf) (L := [some (.ref 65), some (.int 2)]) rfl (Nat.le_of_ble_eq_true rfl) rfl ?_
  refine E_iload_n rfl rfl ?_
  refine E_if (t := 14) (b := false) rfl rfl (by decide) ?_
  refine E_iload_n rfl rfl ?_
  refine E_bipush (x := 8) rfl (by decide) ?_
  refine E_ic (t := 14) (b := false) rfl rfl (by decide) ?_
  refine E_iconst (x := 1) rfl (by decide) ?_
  refine E_goto (t := 15) rfl rfl ?_
  exact E_iret rfl rfl
theorem c146_X6_show : Ev ab_Z0 2 139 [.ref 65, .int 2, .int (-1)] ((w0.set 53 (.inr (.inr (.inr (3, [.ref 54, .int (-1), .int 0]))))).set 53 (.inr (.inr (.inr (3, [.ref 54, .int (-1), .int 0]))))) (some (.int 0), ((((w0.set 53 (.inr (.inr (.inr (3, [.ref 54, .int (-1), .int 0]))))).set 53 (.inr (.inr (.inr (3, [.ref 54, .int (-1), .int 0]))))).set 76 (.inl [0, 0, 0, 0, 0, 0, 0, 0])).set 79 (.inl [0, 0, (-1), 0, 0, 0, 0, 0]))) := by
  refine Ef.in (md := mX6_show) (L := [some (.ref 65), some (.int 2), some (.int (-1))]) rfl (Nat.le_of_ble_eq_true rfl) rfl ?_
  refine E_aload_n rfl rfl ?_
  refine E_iload_n rfl rfl ?_
  refine E_callV (v := some (.int 1)) (As := [.ref 65, .int 2]) (r0 := []) (cs2 := ((w0.set 53 (.inr (.inr (.inr (3, [.ref 54, .int (-1), .int 0]))))).set 53 (.inr (.inr (.inr (3, [.ref 54, .int (-1), .int 0])))))) rfl rfl rfl (Nat.le_of_ble_eq_true rfl) rfl rfl c147_X6_isShelf (by decide) rfl ?_
  refine E_if (t := 21) (b := false) rfl rfl (by decide) ?_
  refine E_iload_n rfl rfl ?_
  refine E_iconst (x := (-1)) rfl (by decide) ?_
  refine E_ic (t := 27) (b := true) rfl rfl (by decide) ?_
  refine E_aload_n rfl rfl ?_
  refine E_getfield (v := .ref 76) rfl rfl rfl (by decide) rfl ?_
  refine E_iload_n rfl rfl ?_
  refine E_iload_n rfl rfl ?_
  refine E_iconst (x := (-1)) rfl (by decide) ?_
  refine E_ic (t := 41) (b := false) rfl rfl (by decide) ?_
  refine E_iconst (x := 0) rfl (by decide) ?_
  refine E_goto (t := 42) rfl rfl ?_
  refine E_iastore (j := 2) (cs2 := (((w0.set 53 (.inr (.inr (.inr (3, [.ref 54, .int (-1), .int 0]))))).set 53 (.inr (.inr (.inr (3, [.ref 54, .int (-1), .int 0]))))).set 76 (.inl [0, 0, 0, 0, 0, 0, 0, 0]))) rfl rfl (by decide) (by decide) (Nat.le_of_ble_eq_true rfl) rfl ?_
  refine E_aload_n rfl rfl ?_
  refine E_getfield (v := .ref 79) rfl rfl rfl (by decide) rfl ?_
  refine E_iload_n rfl rfl ?_
  refine E_iload_n rfl rfl ?_
  refine E_iastore (j := 2) (cs2 := ((((w0.set 53 (.inr (.inr (.inr (3, [.ref 54, .int (-1), .int 0]))))).set 53 (.inr (.inr (.inr (3, [.ref 54, .int (-1), .int 0]))))).set 76 (.inl [0, 0, 0, 0, 0, 0, 0, 0])).set 79 (.inl [0, 0, (-1), 0, 0, 0, 0, 0]))) rfl rfl (by decide) (by decide) (Nat.le_of_ble_eq_true rfl) rfl ?_
  refine E_iload_n rfl rfl ?_
  refine E_iconst (x := (-1)) rfl (by decide) ?_
  refine E_ic (t := 59) (b := false) rfl rfl (by decide) ?_
  refine E_iconst (x := 0) rfl (by decide) ?_
  refine E_goto (t := 60) rfl rfl ?_
  exact E_iret rfl rfl
theorem c149_X3_holdPiece : Ev ab_Z0 1 31 [.ref 55, .int (-1)] w0 (none, ((w0.set 55 (.inr (.inr (.inr (3, [.ref 56, .int (-1), .int 0]))))).set 55 (.inr (.inr (.inr (3, [.ref 56, .int (-1), .int 0])))))) := by
  refine Ef.in (md := mX3_holdPiece) (L := [some (.ref 55), some (.int (-1))]) rfl (Nat.le_of_ble_eq_true rfl) rfl ?_
  refine E_aload_n rfl rfl ?_
  refine E_iload_n rfl rfl ?_
  refine E_putfield (cs2 := (w0.set 55 (.inr (.inr (.inr (3, [.ref 56, .int (-1), .int 0])))))) rfl rfl rfl (by decide) (Nat.le_of_ble_eq_true rfl) rfl rfl rfl rfl ?_
  refine E_aload_n rfl rfl ?_
  refine E_iconst (x := 0) rfl (by decide) ?_
  refine E_putfield (cs2 := ((w0.set 55 (.inr (.inr (.inr (3, [.ref 56, .int (-1), .int 0]))))).set 55 (.inr (.inr (.inr (3, [.ref 56, .int (-1), .int 0])))))) rfl rfl rfl (by decide) (Nat.le_of_ble_eq_true rfl) rfl rfl rfl rfl ?_
  exact E_vret rfl rfl
theorem c148_X5_show : Ev ab_Z0 3 80 [.ref 0, .int 3, .int (-1)] w0 (some (.int 0), ((w0.set 55 (.inr (.inr (.inr (3, [.ref 56, .int (-1), .int 0]))))).set 55 (.inr (.inr (.inr (3, [.ref 56, .int (-1), .int 0])))))) := by
  refine Ef.in (md := mX5_show) (L := [some (.ref 0), some (.int 3), some (.int (-1))]) rfl (Nat.le_of_ble_eq_true rfl) rfl ?_
  refine E_iload_n rfl rfl ?_
  refine E_callS (v := some (.int 1)) (As := [.int 3]) (r0 := []) (cs2 := w0) rfl rfl rfl (Nat.le_of_ble_eq_true rfl) rfl c16_X5_isShelf (by decide) rfl ?_
  refine E_if (t := 23) (b := false) rfl rfl (by decide) ?_
  refine E_iload_n rfl rfl ?_
  refine E_iconst (x := (-1)) rfl (by decide) ?_
  refine E_ic (t := 29) (b := true) rfl rfl (by decide) ?_
  refine E_aload_n rfl rfl ?_
  refine E_getfield (v := .ref 31) rfl rfl rfl (by decide) rfl ?_
  refine E_iload_n rfl rfl ?_
  refine E_aaload (b := 55) (j := 3) rfl rfl (by decide) (by decide) rfl ?_
  refine E_iload_n rfl rfl ?_
  refine E_callV (v := none) (As := [.ref 55, .int (-1)]) (r0 := []) (cs2 := ((w0.set 55 (.inr (.inr (.inr (3, [.ref 56, .int (-1), .int 0]))))).set 55 (.inr (.inr (.inr (3, [.ref 56, .int (-1), .int 0])))))) rfl rfl rfl (Nat.le_of_ble_eq_true rfl) rfl rfl c149_X3_holdPiece (by decide) (by simp only [List.length_set]) ?_
  refine E_iload_n rfl rfl ?_
  refine E_iconst (x := (-1)) rfl (by decide) ?_
  refine E_ic (t := 48) (b := false) rfl rfl (by decide) ?_
  refine E_iconst (x := 0) rfl (by decide) ?_
  refine E_goto (t := 49) rfl rfl ?_
  exact E_iret rfl rfl
theorem c151_X6_isShelf : Ev ab_Z0 1 131 [.ref 65, .int 3] ((w0.set 55 (.inr (.inr (.inr (3, [.ref 56, .int (-1), .int 0]))))).set 55 (.inr (.inr (.inr (3, [.ref 56, .int (-1), .int 0]))))) (some (.int 1), ((w0.set 55 (.inr (.inr (.inr (3, [.ref 56, .int (-1), .int 0]))))).set 55 (.inr (.inr (.inr (3, [.ref 56, .int (-1), .int 0])))))) := by
  refine Ef.in (md := mX6_isShelf) (L := [some (.ref 65), some (.int 3)]) rfl (Nat.le_of_ble_eq_true rfl) rfl ?_
  refine E_iload_n rfl rfl ?_
  refine E_if (t := 14) (b := false) rfl rfl (by decide) ?_
  refine E_iload_n rfl rfl ?_
  refine E_bipush (x := 8) rfl (by decide) ?_
  refine E_ic (t := 14) (b := false) rfl rfl (by decide) ?_
  refine E_iconst (x := 1) rfl (by decide) ?_
  refine E_goto (t := 15) rfl rfl ?_
  exact E_iret rfl rfl
theorem c150_X6_show : Ev ab_Z0 2 139 [.ref 65, .int 3, .int (-1)] ((w0.set 55 (.inr (.inr (.inr (3, [.ref 56, .int (-1), .int 0]))))).set 55 (.inr (.inr (.inr (3, [.ref 56, .int (-1), .int 0]))))) (some (.int 0), ((((w0.set 55 (.inr (.inr (.inr (3, [.ref 56, .int (-1), .int 0]))))).set 55 (.inr (.inr (.inr (3, [.ref 56, .int (-1), .int 0]))))).set 76 (.inl [0, 0, 0, 0, 0, 0, 0, 0])).set 79 (.inl [0, 0, 0, (-1), 0, 0, 0, 0]))) := by
  refine Ef.in (md := mX6_show) (L := [some (.ref 65), some (.int 3), some (.int (-1))]) rfl (Nat.le_of_ble_eq_true rfl) rfl ?_
  refine E_aload_n rfl rfl ?_
  refine E_iload_n rfl rfl ?_
  refine E_callV (v := some (.int 1)) (As := [.ref 65, .int 3]) (r0 := []) (cs2 := ((w0.set 55 (.inr (.inr (.inr (3, [.ref 56, .int (-1), .int 0]))))).set 55 (.inr (.inr (.inr (3, [.ref 56, .int (-1), .int 0])))))) rfl rfl rfl (Nat.le_of_ble_eq_true rfl) rfl rfl c151_X6_isShelf (by decide) rfl ?_
  refine E_if (t := 21) (b := false) rfl rfl (by decide) ?_
  refine E_iload_n rfl rfl ?_
  refine E_iconst (x := (-1)) rfl (by decide) ?_
  refine E_ic (t := 27) (b := true) rfl rfl (by decide) ?_
  refine E_aload_n rfl rfl ?_
  refine E_getfield (v := .ref 76) rfl rfl rfl (by decide) rfl ?_
  refine E_iload_n rfl rfl ?_
  refine E_iload_n rfl rfl ?_
  refine E_iconst (x := (-1)) rfl (by decide) ?_
  refine E_ic (t := 41) (b := false) rfl rfl (by decide) ?_
  refine E_iconst (x := 0) rfl (by decide) ?_
  refine E_goto (t := 42) rfl rfl ?_
  refine E_iastore (j := 3) (cs2 := (((w0.set 55 (.inr (.inr (.inr (3, [.ref 56, .int (-1), .int 0]))))).set 55 (.inr (.inr (.inr (3, [.ref 56, .int (-1), .int 0]))))).set 76 (.inl [0, 0, 0, 0, 0, 0, 0, 0]))) rfl rfl (by decide) (by decide) (Nat.le_of_ble_eq_true rfl) rfl ?_
  refine E_aload_n rfl rfl ?_
  refine E_getfield (v := .ref 79) rfl rfl rfl (by decide) rfl ?_
  refine E_iload_n rfl rfl ?_
  refine E_iload_n rfl rfl ?_
  refine E_iastore (j := 3) (cs2 := ((((w0.set 55 (.inr (.inr (.inr (3, [.ref 56, .int (-1), .int 0]))))).set 55 (.inr (.inr (.inr (3, [.ref 56, .int (-1), .int 0]))))).set 76 (.inl [0, 0, 0, 0, 0, 0, 0, 0])).set 79 (.inl [0, 0, 0, (-1), 0, 0, 0, 0]))) rfl rfl (by decide) (by decide) (Nat.le_of_ble_eq_true rfl) rfl ?_
  refine E_iload_n rfl rfl ?_
  refine E_iconst (x := (-1)) rfl (by decide) ?_
  refine E_ic (t := 59) (b := false) rfl rfl (by decide) ?_
  refine E_iconst (x := 0) rfl (by decide) ?_
  refine E_goto (t := 60) rfl rfl ?_
  exact E_iret rfl rfl
theorem c153_X3_holdPiece : Ev ab_Z0 1 31 [.ref 57, .int (-1)] w0 (none, ((w0.set 57 (.inr (.inr (.inr (3, [.ref 58, .int (-1), .int 0]))))).set 57 (.inr (.inr (.inr (3, [.ref 58, .int (-1), .int 0])))))) := by
  refine Ef.in (md := mX3_holdPiece) (L := [some (.ref 57), some (.int (-1))]) rfl (Nat.le_of_ble_eq_true rfl) rfl ?_
  refine E_aload_n rfl rfl ?_
  refine E_iload_n rfl rfl ?_
  refine E_putfield (cs2 := (w0.set 57 (.inr (.inr (.inr (3, [.ref 58, .int (-1), .int 0])))))) rfl rfl rfl (by decide) (Nat.le_of_ble_eq_true rfl) rfl rfl rfl rfl ?_
  refine E_aload_n rfl rfl ?_
  refine E_iconst (x := 0) rfl (by decide) ?_
  refine E_putfield (cs2 := ((w0.set 57 (.inr (.inr (.inr (3, [.ref 58, .int (-1), .int 0]))))).set 57 (.inr (.inr (.inr (3, [.ref 58, .int (-1), .int 0])))))) rfl rfl rfl (by decide) (Nat.le_of_ble_eq_true rfl) rfl rfl rfl rfl ?_
  exact E_vret rfl rfl
theorem c152_X5_show : Ev ab_Z0 3 80 [.ref 0, .int 4, .int (-1)] w0 (some (.int 0), ((w0.set 57 (.inr (.inr (.inr (3, [.ref 58, .int (-1), .int 0]))))).set 57 (.inr (.inr (.inr (3, [.ref 58, .int (-1), .int 0])))))) := by
  refine Ef.in (md := mX5_show) (L := [some (.ref 0), some (.int 4), some (.int (-1))]) rfl (Nat.le_of_ble_eq_true rfl) rfl ?_
  refine E_iload_n rfl rfl ?_
  refine E_callS (v := some (.int 1)) (As := [.int 4]) (r0 := []) (cs2 := w0) rfl rfl rfl (Nat.le_of_ble_eq_true rfl) rfl c18_X5_isShelf (by decide) rfl ?_
  refine E_if (t := 23) (b := false) rfl rfl (by decide) ?_
  refine E_iload_n rfl rfl ?_
  refine E_iconst (x := (-1)) rfl (by decide) ?_
  refine E_ic (t := 29) (b := true) rfl rfl (by decide) ?_
  refine E_aload_n rfl rfl ?_
  refine E_getfield (v := .ref 31) rfl rfl rfl (by decide) rfl ?_
  refine E_iload_n rfl rfl ?_
  refine E_aaload (b := 57) (j := 4) rfl rfl (by decide) (by decide) rfl ?_
  refine E_iload_n rfl rfl ?_
  refine E_callV (v := none) (As := [.ref 57, .int (-1)]) (r0 := []) (cs2 := ((w0.set 57 (.inr (.inr (.inr (3, [.ref 58, .int (-1), .int 0]))))).set 57 (.inr (.inr (.inr (3, [.ref 58, .int (-1), .int 0])))))) rfl rfl rfl (Nat.le_of_ble_eq_true rfl) rfl rfl c153_X3_holdPiece (by decide) (by simp only [List.length_set]) ?_
  refine E_iload_n rfl rfl ?_
  refine E_iconst (x := (-1)) rfl (by decide) ?_
  refine E_ic (t := 48) (b := false) rfl rfl (by decide) ?_
  refine E_iconst (x := 0) rfl (by decide) ?_
  refine E_goto (t := 49) rfl rfl ?_
  exact E_iret rfl rfl
theorem c155_X6_isShelf : Ev ab_Z0 1 131 [.ref 65, .int 4] ((w0.set 57 (.inr (.inr (.inr (3, [.ref 58, .int (-1), .int 0]))))).set 57 (.inr (.inr (.inr (3, [.ref 58, .int (-1), .int 0]))))) (some (.int 1), ((w0.set 57 (.inr (.inr (.inr (3, [.ref 58, .int (-1), .int 0]))))).set 57 (.inr (.inr (.inr (3, [.ref 58, .int (-1), .int 0])))))) := by
  refine Ef.in (md := mX6_isShelf) (L := [some (.ref 65), some (.int 4)]) rfl (Nat.le_of_ble_eq_true rfl) rfl ?_
  refine E_iload_n rfl rfl ?_
  refine E_if (t := 14) (b := false) rfl rfl (by decide) ?_
  refine E_iload_n rfl rfl ?_
  refine E_bipush (x := 8) rfl (by decide) ?_
  refine E_ic (t := 14) (b := false) rfl rfl (by decide) ?_
  refine E_iconst (x := 1) rfl (by decide) ?_
  refine E_goto (t := 15) rfl rfl ?_
  exact E_iret rfl rfl
theorem c154_X6_show : Ev ab_Z0 2 139 [.ref 65, .int 4, .int (-1)] ((w0.set 57 (.inr (.inr (.inr (3, [.ref 58, .int (-1), .int 0]))))).set 57 (.inr (.inr (.inr (3, [.ref 58, .int (-1), .int 0]))))) (some (.int 0), ((((w0.set 57 (.inr (.inr (.inr (3, [.ref 58, .int (-1), .int 0]))))).set 57 (.inr (.inr (.inr (3, [.ref 58, .int (-1), .int 0]))))).set 76 (.inl [0, 0, 0, 0, 0, 0, 0, 0])).set 79 (.inl [0, 0, 0, 0, (-1), 0, 0, 0]))) := by
  refine Ef.in (md := mX6_show) (L := [some (.ref 65), some (.int 4), some (.int (-1))]) rfl (Nat.le_of_ble_eq_true rfl) rfl ?_
  refine E_aload_n rfl rfl ?_
  refine E_iload_n rfl rfl ?_
  refine E_callV (v := some (.int 1)) (As := [.ref 65, .int 4]) (r0 := []) (cs2 := ((w0.set 57 (.inr (.inr (.inr (3, [.ref 58, .int (-1), .int 0]))))).set 57 (.inr (.inr (.inr (3, [.ref 58, .int (-1), .int 0])))))) rfl rfl rfl (Nat.le_of_ble_eq_true rfl) rfl rfl c155_X6_isShelf (by decide) rfl ?_
  refine E_if (t := 21) (b := false) rfl rfl (by decide) ?_
  refine E_iload_n rfl rfl ?_
  refine E_iconst (x := (-1)) rfl (by decide) ?_
  refine E_ic (t := 27) (b := true) rfl rfl (by decide) ?_
  refine E_aload_n rfl rfl ?_
  refine E_getfield (v := .ref 76) rfl rfl rfl (by decide) rfl ?_
  refine E_iload_n rfl rfl ?_
  refine E_iload_n rfl rfl ?_
  refine E_iconst (x := (-1)) rfl (by decide) ?_
  refine E_ic (t := 41) (b := false) rfl rfl (by decide) ?_
  refine E_iconst (x := 0) rfl (by decide) ?_
  refine E_goto (t := 42) rfl rfl ?_
  refine E_iastore (j := 4) (cs2 := (((w0.set 57 (.inr (.inr (.inr (3, [.ref 58, .int (-1), .int 0]))))).set 57 (.inr (.inr (.inr (3, [.ref 58, .int (-1), .int 0]))))).set 76 (.inl [0, 0, 0, 0, 0, 0, 0, 0]))) rfl rfl (by decide) (by decide) (Nat.le_of_ble_eq_true rfl) rfl ?_
  refine E_aload_n rfl rfl ?_
  refine E_getfield (v := .ref 79) rfl rfl rfl (by decide) rfl ?_
  refine E_iload_n rfl rfl ?_
  refine E_iload_n rfl rfl ?_
  refine E_iastore (j := 4) (cs2 := ((((w0.set 57 (.inr (.inr (.inr (3, [.ref 58, .int (-1), .int 0]))))).set 57 (.inr (.inr (.inr (3, [.ref 58, .int (-1), .int 0]))))).set 76 (.inl [0, 0, 0, 0, 0, 0, 0, 0])).set 79 (.inl [0, 0, 0, 0, (-1), 0, 0, 0]))) rfl rfl (by decide) (by decide) (Nat.le_of_ble_eq_true rfl) rfl ?_
  refine E_iload_n rfl rfl ?_
  refine E_iconst (x := (-1)) rfl (by decide) ?_
  refine E_ic (t := 59) (b := false) rfl rfl (by decide) ?_
  refine E_iconst (x := 0) rfl (by decide) ?_
  refine E_goto (t := 60) rfl rfl ?_
  exact E_iret rfl rfl
theorem c157_X3_holdPiece : Ev ab_Z0 1 31 [.ref 59, .int (-1)] w0 (none, ((w0.set 59 (.inr (.inr (.inr (3, [.ref 60, .int (-1), .int 0]))))).set 59 (.inr (.inr (.inr (3, [.ref 60, .int (-1), .int 0])))))) := by
  refine Ef.in (md := mX3_holdPiece) (L := [some (.ref 59), some (.int (-1))]) rfl (Nat.le_of_ble_eq_true rfl) rfl ?_
  refine E_aload_n rfl rfl ?_
  refine E_iload_n rfl rfl ?_
  refine E_putfield (cs2 := (w0.set 59 (.inr (.inr (.inr (3, [.ref 60, .int (-1), .int 0])))))) rfl rfl rfl (by decide) (Nat.le_of_ble_eq_true rfl) rfl rfl rfl rfl ?_
  refine E_aload_n rfl rfl ?_
  refine E_iconst (x := 0) rfl (by decide) ?_
  refine E_putfield (cs2 := ((w0.set 59 (.inr (.inr (.inr (3, [.ref 60, .int (-1), .int 0]))))).set 59 (.inr (.inr (.inr (3, [.ref 60, .int (-1), .int 0])))))) rfl rfl rfl (by decide) (Nat.le_of_ble_eq_true rfl) rfl rfl rfl rfl ?_
  exact E_vret rfl rfl
theorem c156_X5_show : Ev ab_Z0 3 80 [.ref 0, .int 5, .int (-1)] w0 (some (.int 0), ((w0.set 59 (.inr (.inr (.inr (3, [.ref 60, .int (-1), .int 0]))))).set 59 (.inr (.inr (.inr (3, [.ref 60, .int (-1), .int 0])))))) := by
  refine Ef.in (md := mX5_show) (L := [some (.ref 0), some (.int 5), some (.int (-1))]) rfl (Nat.le_of_ble_eq_true rfl) rfl ?_
  refine E_iload_n rfl rfl ?_
  refine E_callS (v := some (.int 1)) (As := [.int 5]) (r0 := []) (cs2 := w0) rfl rfl rfl (Nat.le_of_ble_eq_true rfl) rfl c20_X5_isShelf (by decide) rfl ?_
  refine E_if (t := 23) (b := false) rfl rfl (by decide) ?_
  refine E_iload_n rfl rfl ?_
  refine E_iconst (x := (-1)) rfl (by decide) ?_
  refine E_ic (t := 29) (b := true) rfl rfl (by decide) ?_
  refine E_aload_n rfl rfl ?_
  refine E_getfield (v := .ref 31) rfl rfl rfl (by decide) rfl ?_
  refine E_iload_n rfl rfl ?_
  refine E_aaload (b := 59) (j := 5) rfl rfl (by decide) (by decide) rfl ?_
  refine E_iload_n rfl rfl ?_
  refine E_callV (v := none) (As := [.ref 59, .int (-1)]) (r0 := []) (cs2 := ((w0.set 59 (.inr (.inr (.inr (3, [.ref 60, .int (-1), .int 0]))))).set 59 (.inr (.inr (.inr (3, [.ref 60, .int (-1), .int 0])))))) rfl rfl rfl (Nat.le_of_ble_eq_true rfl) rfl rfl c157_X3_holdPiece (by decide) (by simp only [List.length_set]) ?_
  refine E_iload_n rfl rfl ?_
  refine E_iconst (x := (-1)) rfl (by decide) ?_
  refine E_ic (t := 48) (b := false) rfl rfl (by decide) ?_
  refine E_iconst (x := 0) rfl (by decide) ?_
  refine E_goto (t := 49) rfl rfl ?_
  exact E_iret rfl rfl
theorem c159_X6_isShelf : Ev ab_Z0 1 131 [.ref 65, .int 5] ((w0.set 59 (.inr (.inr (.inr (3, [.ref 60, .int (-1), .int 0]))))).set 59 (.inr (.inr (.inr (3, [.ref 60, .int (-1), .int 0]))))) (some (.int 1), ((w0.set 59 (.inr (.inr (.inr (3, [.ref 60, .int (-1), .int 0]))))).set 59 (.inr (.inr (.inr (3, [.ref 60, .int (-1), .int 0])))))) := by
  refine Ef.in (md := mX6_isShelf) (L := [some (.ref 65), some (.int 5)]) rfl (Nat.le_of_ble_eq_true rfl) rfl ?_
  refine E_iload_n rfl rfl ?_
  refine E_if (t := 14) (b := false) rfl rfl (by decide) ?_
  refine E_iload_n rfl rfl ?_
  refine E_bipush (x := 8) rfl (by decide) ?_
  refine E_ic (t := 14) (b := false) rfl rfl (by decide) ?_
  refine E_iconst (x := 1) rfl (by decide) ?_
  refine E_goto (t := 15) rfl rfl ?_
  exact E_iret rfl rfl
theorem c158_X6_show : Ev ab_Z0 2 139 [.ref 65, .int 5, .int (-1)] ((w0.set 59 (.inr (.inr (.inr (3, [.ref 60, .int (-1), .int 0]))))).set 59 (.inr (.inr (.inr (3, [.ref 60, .int (-1), .int 0]))))) (some (.int 0), ((((w0.set 59 (.inr (.inr (.inr (3, [.ref 60, .int (-1), .int 0]))))).set 59 (.inr (.inr (.inr (3, [.ref 60, .int (-1), .int 0]))))).set 76 (.inl [0, 0, 0, 0, 0, 0, 0, 0])).set 79 (.inl [0, 0, 0, 0, 0, (-1), 0, 0]))) := by
  refine Ef.in (md := mX6_show) (L := [some (.ref 65), some (.int 5), some (.int (-1))]) rfl (Nat.le_of_ble_eq_true rfl) rfl ?_
  refine E_aload_n rfl rfl ?_
  refine E_iload_n rfl rfl ?_
  refine E_callV (v := some (.int 1)) (As := [.ref 65, .int 5]) (r0 := []) (cs2 := ((w0.set 59 (.inr (.inr (.inr (3, [.ref 60, .int (-1), .int 0]))))).set 59 (.inr (.inr (.inr (3, [.ref 60, .int (-1), .int 0])))))) rfl rfl rfl (Nat.le_of_ble_eq_true rfl) rfl rfl c159_X6_isShelf (by decide) rfl ?_
  refine E_if (t := 21) (b := false) rfl rfl (by decide) ?_
  refine E_iload_n rfl rfl ?_
  refine E_iconst (x := (-1)) rfl (by decide) ?_
  refine E_ic (t := 27) (b := true) rfl rfl (by decide) ?_
  refine E_aload_n rfl rfl ?_
  refine E_getfield (v := .ref 76) rfl rfl rfl (by decide) rfl ?_
  refine E_iload_n rfl rfl ?_
  refine E_iload_n rfl rfl ?_
  refine E_iconst (x := (-1)) rfl (by decide) ?_
  refine E_ic (t := 41) (b := false) rfl rfl (by decide) ?_
  refine E_iconst (x := 0) rfl (by decide) ?_
  refine E_goto (t := 42) rfl rfl ?_
  refine E_iastore (j := 5) (cs2 := (((w0.set 59 (.inr (.inr (.inr (3, [.ref 60, .int (-1), .int 0]))))).set 59 (.inr (.inr (.inr (3, [.ref 60, .int (-1), .int 0]))))).set 76 (.inl [0, 0, 0, 0, 0, 0, 0, 0]))) rfl rfl (by decide) (by decide) (Nat.le_of_ble_eq_true rfl) rfl ?_
  refine E_aload_n rfl rfl ?_
  refine E_getfield (v := .ref 79) rfl rfl rfl (by decide) rfl ?_
  refine E_iload_n rfl rfl ?_
  refine E_iload_n rfl rfl ?_
  refine E_iastore (j := 5) (cs2 := ((((w0.set 59 (.inr (.inr (.inr (3, [.ref 60, .int (-1), .int 0]))))).set 59 (.inr (.inr (.inr (3, [.ref 60, .int (-1), .int 0]))))).set 76 (.inl [0, 0, 0, 0, 0, 0, 0, 0])).set 79 (.inl [0, 0, 0, 0, 0, (-1), 0, 0]))) rfl rfl (by decide) (by decide) (Nat.le_of_ble_eq_true rfl) rfl ?_
  refine E_iload_n rfl rfl ?_
  refine E_iconst (x := (-1)) rfl (by decide) ?_
  refine E_ic (t := 59) (b := false) rfl rfl (by decide) ?_
  refine E_iconst (x := 0) rfl (by decide) ?_
  refine E_goto (t := 60) rfl rfl ?_
  exact E_iret rfl rfl
theorem c161_X3_holdPiece : Ev ab_Z0 1 31 [.ref 61, .int (-1)] w0 (none, ((w0.set 61 (.inr (.inr (.inr (3, [.ref 62, .int (-1), .int 0]))))).set 61 (.inr (.inr (.inr (3, [.ref 62, .int (-1), .int 0])))))) := by
  refine Ef.in (md := mX3_holdPiece) (L := [some (.ref 61), some (.int (-1))]) rfl (Nat.le_of_ble_eq_true rfl) rfl ?_
  refine E_aload_n rfl rfl ?_
  refine E_iload_n rfl rfl ?_
  refine E_putfield (cs2 := (w0.set 61 (.inr (.inr (.inr (3, [.ref 62, .int (-1), .int 0])))))) rfl rfl rfl (by decide) (Nat.le_of_ble_eq_true rfl) rfl rfl rfl rfl ?_
  refine E_aload_n rfl rfl ?_
  refine E_iconst (x := 0) rfl (by decide) ?_
  refine E_putfield (cs2 := ((w0.set 61 (.inr (.inr (.inr (3, [.ref 62, .int (-1), .int 0]))))).set 61 (.inr (.inr (.inr (3, [.ref 62, .int (-1), .int 0])))))) rfl rfl rfl (by decide) (Nat.le_of_ble_eq_true rfl) rfl rfl rfl rfl ?_
  exact E_vret rfl rfl
theorem c160_X5_show : Ev ab_Z0 3 80 [.ref 0, .int 6, .int (-1)] w0 (some (.int 0), ((w0.set 61 (.inr (.inr (.inr (3, [.ref 62, .int (-1), .int 0]))))).set 61 (.inr (.inr (.inr (3, [.ref 62, .int (-1), .int 0])))))) := by
  refine Ef.in (md := mX5_show) (L := [some (.ref 0), some (.int 6), some (.int (-1))]) rfl (Nat.le_of_ble_eq_true rfl) rfl ?_
  refine E_iload_n rfl rfl ?_
  refine E_callS (v := some (.int 1)) (As := [.int 6]) (r0 := []) (cs2 := w0) rfl rfl rfl (Nat.le_of_ble_eq_true rfl) rfl c22_X5_isShelf (by decide) rfl ?_
  refine E_if (t := 23) (b := false) rfl rfl (by decide) ?_
  refine E_iload_n rfl rfl ?_
  refine E_iconst (x := (-1)) rfl (by decide) ?_
  refine E_ic (t := 29) (b := true) rfl rfl (by decide) ?_
  refine E_aload_n rfl rfl ?_
  refine E_getfield (v := .ref 31) rfl rfl rfl (by decide) rfl ?_
  refine E_iload_n rfl rfl ?_
  refine E_aaload (b := 61) (j := 6) rfl rfl (by decide) (by decide) rfl ?_
  refine E_iload_n rfl rfl ?_
  refine E_callV (v := none) (As := [.ref 61, .int (-1)]) (r0 := []) (cs2 := ((w0.set 61 (.inr (.inr (.inr (3, [.ref 62, .int (-1), .int 0]))))).set 61 (.inr (.inr (.inr (3, [.ref 62, .int (-1), .int 0])))))) rfl rfl rfl (Nat.le_of_ble_eq_true rfl) rfl rfl c161_X3_holdPiece (by decide) (by simp only [List.length_set]) ?_
  refine E_iload_n rfl rfl ?_
  refine E_iconst (x := (-1)) rfl (by decide) ?_
  refine E_ic (t := 48) (b := false) rfl rfl (by decide) ?_
  refine E_iconst (x := 0) rfl (by decide) ?_
  refine E_goto (t := 49) rfl rfl ?_
  exact E_iret rfl rfl
theorem c163_X6_isShelf : Ev ab_Z0 1 131 [.ref 65, .int 6] ((w0.set 61 (.inr (.inr (.inr (3, [.ref 62, .int (-1), .int 0]))))).set 61 (.inr (.inr (.inr (3, [.ref 62, .int (-1), .int 0]))))) (some (.int 1), ((w0.set 61 (.inr (.inr (.inr (3, [.ref 62, .int (-1), .int 0]))))).set 61 (.inr (.inr (.inr (3, [.ref 62, .int (-1), .int 0])))))) := by
  refine Ef.in (md := mX6_isShelf) (L := [some (.ref 65), some (.int 6)]) rfl (Nat.le_of_ble_eq_true rfl) rfl ?_
  refine E_iload_n rfl rfl ?_
  refine E_if (t := 14) (b := false) rfl rfl (by decide) ?_
  refine E_iload_n rfl rfl ?_
  refine E_bipush (x := 8) rfl (by decide) ?_
  refine E_ic (t := 14) (b := false) rfl rfl (by decide) ?_
  refine E_iconst (x := 1) rfl (by decide) ?_
  refine E_goto (t := 15) rfl rfl ?_
  exact E_iret rfl rfl
theorem c162_X6_show : Ev ab_Z0 2 139 [.ref 65, .int 6, .int (-1)] ((w0.set 61 (.inr (.inr (.inr (3, [.ref 62, .int (-1), .int 0]))))).set 61 (.inr (.inr (.inr (3, [.ref 62, .int (-1), .int 0]))))) (some (.int 0), ((((w0.set 61 (.inr (.inr (.inr (3, [.ref 62, .int (-1), .int 0]))))).set 61 (.inr (.inr (.inr (3, [.ref 62, .int (-1), .int 0]))))).set 76 (.inl [0, 0, 0, 0, 0, 0, 0, 0])).set 79 (.inl [0, 0, 0, 0, 0, 0, (-1), 0]))) := by
  refine Ef.in (md := mX6_show) (L := [some (.ref 65), some (.int 6), some (.int (-1))]) rfl (Nat.le_of_ble_eq_true rfl) rfl ?_
  refine E_aload_n rfl rfl ?_
  refine E_iload_n rfl rfl ?_
  refine E_callV (v := some (.int 1)) (As := [.ref 65, .int 6]) (r0 := []) (cs2 := ((w0.set 61 (.inr (.inr (.inr (3, [.ref 62, .int (-1), .int 0]))))).set 61 (.inr (.inr (.inr (3, [.ref 62, .int (-1), .int 0])))))) rfl rfl rfl (Nat.le_of_ble_eq_true rfl) rfl rfl c163_X6_isShelf (by decide) rfl ?_
  refine E_if (t := 21) (b := false) rfl rfl (by decide) ?_
  refine E_iload_n rfl rfl ?_
  refine E_iconst (x := (-1)) rfl (by decide) ?_
  refine E_ic (t := 27) (b := true) rfl rfl (by decide) ?_
  refine E_aload_n rfl rfl ?_
  refine E_getfield (v := .ref 76) rfl rfl rfl (by decide) rfl ?_
  refine E_iload_n rfl rfl ?_
  refine E_iload_n rfl rfl ?_
  refine E_iconst (x := (-1)) rfl (by decide) ?_
  refine E_ic (t := 41) (b := false) rfl rfl (by decide) ?_
  refine E_iconst (x := 0) rfl (by decide) ?_
  refine E_goto (t := 42) rfl rfl ?_
  refine E_iastore (j := 6) (cs2 := (((w0.set 61 (.inr (.inr (.inr (3, [.ref 62, .int (-1), .int 0]))))).set 61 (.inr (.inr (.inr (3, [.ref 62, .int (-1), .int 0]))))).set 76 (.inl [0, 0, 0, 0, 0, 0, 0, 0]))) rfl rfl (by decide) (by decide) (Nat.le_of_ble_eq_true rfl) rfl ?_
  refine E_aload_n rfl rfl ?_
  refine E_getfield (v := .ref 79) rfl rfl rfl (by decide) rfl ?_
  refine E_iload_n rfl rfl ?_
  refine E_iload_n rfl rfl ?_
  refine E_iastore (j := 6) (cs2 := ((((w0.set 61 (.inr (.inr (.inr (3, [.ref 62, .int (-1), .int 0]))))).set 61 (.inr (.inr (.inr (3, [.ref 62, .int (-1), .int 0]))))).set 76 (.inl [0, 0, 0, 0, 0, 0, 0, 0])).set 79 (.inl [0, 0, 0, 0, 0, 0, (-1), 0]))) rfl rfl (by decide) (by decide) (Nat.le_of_ble_eq_true rfl) rfl ?_
  refine E_iload_n rfl rfl ?_
  refine E_iconst (x := (-1)) rfl (by decide) ?_
  refine E_ic (t := 59) (b := false) rfl rfl (by decide) ?_
  refine E_iconst (x := 0) rfl (by decide) ?_
  refine E_goto (t := 60) rfl rfl ?_
  exact E_iret rfl rfl
theorem c165_X3_holdPiece : Ev ab_Z0 1 31 [.ref 63, .int (-1)] w0 (none, ((w0.set 63 (.inr (.inr (.inr (3, [.ref 64, .int (-1), .int 0]))))).set 63 (.inr (.inr (.inr (3, [.ref 64, .int (-1), .int 0])))))) := by
  refine Ef.in (md := mX3_holdPiece) (L := [some (.ref 63), some (.int (-1))]) rfl (Nat.le_of_ble_eq_true rfl) rfl ?_
  refine E_aload_n rfl rfl ?_
  refine E_iload_n rfl rfl ?_
  refine E_putfield (cs2 := (w0.set 63 (.inr (.inr (.inr (3, [.ref 64, .int (-1), .int 0])))))) rfl rfl rfl (by decide) (Nat.le_of_ble_eq_true rfl) rfl rfl rfl rfl ?_
  refine E_aload_n rfl rfl ?_
  refine E_iconst (x := 0) rfl (by decide) ?_
  refine E_putfield (cs2 := ((w0.set 63 (.inr (.inr (.inr (3, [.ref 64, .int (-1), .int 0]))))).set 63 (.inr (.inr (.inr (3, [.ref 64, .int (-1), .int 0])))))) rfl rfl rfl (by decide) (Nat.le_of_ble_eq_true rfl) rfl rfl rfl rfl ?_
  exact E_vret rfl rfl
theorem c164_X5_show : Ev ab_Z0 3 80 [.ref 0, .int 7, .int (-1)] w0 (some (.int 0), ((w0.set 63 (.inr (.inr (.inr (3, [.ref 64, .int (-1), .int 0]))))).set 63 (.inr (.inr (.inr (3, [.ref 64, .int (-1), .int 0])))))) := by
  refine Ef.in (md := mX5_show) (L := [some (.ref 0), some (.int 7), some (.int (-1))]) rfl (Nat.le_of_ble_eq_true rfl) rfl ?_
  refine E_iload_n rfl rfl ?_
  refine E_callS (v := some (.int 1)) (As := [.int 7]) (r0 := []) (cs2 := w0) rfl rfl rfl (Nat.le_of_ble_eq_true rfl) rfl c24_X5_isShelf (by decide) rfl ?_
  refine E_if (t := 23) (b := false) rfl rfl (by decide) ?_
  refine E_iload_n rfl rfl ?_
  refine E_iconst (x := (-1)) rfl (by decide) ?_
  refine E_ic (t := 29) (b := true) rfl rfl (by decide) ?_
  refine E_aload_n rfl rfl ?_
  refine E_getfield (v := .ref 31) rfl rfl rfl (by decide) rfl ?_
  refine E_iload_n rfl rfl ?_
  refine E_aaload (b := 63) (j := 7) rfl rfl (by decide) (by decide) rfl ?_
  refine E_iload_n rfl rfl ?_
  refine E_callV (v := none) (As := [.ref 63, .int (-1)]) (r0 := []) (cs2 := ((w0.set 63 (.inr (.inr (.inr (3, [.ref 64, .int (-1), .int 0]))))).set 63 (.inr (.inr (.inr (3, [.ref 64, .int (-1), .int 0])))))) rfl rfl rfl (Nat.le_of_ble_eq_true rfl) rfl rfl c165_X3_holdPiece (by decide) (by simp only [List.length_set]) ?_
  refine E_iload_n rfl rfl ?_
  refine E_iconst (x := (-1)) rfl (by decide) ?_
  refine E_ic (t := 48) (b := false) rfl rfl (by decide) ?_
  refine E_iconst (x := 0) rfl (by decide) ?_
  refine E_goto (t := 49) rfl rfl ?_
  exact E_iret rfl rfl
theorem c167_X6_isShelf : Ev ab_Z0 1 131 [.ref 65, .int 7] ((w0.set 63 (.inr (.inr (.inr (3, [.ref 64, .int (-1), .int 0]))))).set 63 (.inr (.inr (.inr (3, [.ref 64, .int (-1), .int 0]))))) (some (.int 1), ((w0.set 63 (.inr (.inr (.inr (3, [.ref 64, .int (-1), .int 0]))))).set 63 (.inr (.inr (.inr (3, [.ref 64, .int (-1), .int 0])))))) := by
  refine Ef.in (md := mX6_isShelf) (L := [some (.ref 65), some (.int 7)]) rfl (Nat.le_of_ble_eq_true rfl) rfl ?_
  refine E_iload_n rfl rfl ?_
  refine E_if (t := 14) (b := false) rfl rfl (by decide) ?_
  refine E_iload_n rfl rfl ?_
  refine E_bipush (x := 8) rfl (by decide) ?_
  refine E_ic (t := 14) (b := false) rfl rfl (by decide) ?_
  refine E_iconst (x := 1) rfl (by decide) ?_
  refine E_goto (t := 15) rfl rfl ?_
  exact E_iret rfl rfl
theorem c166_X6_show : Ev ab_Z0 2 139 [.ref 65, .int 7, .int (-1)] ((w0.set 63 (.inr (.inr (.inr (3, [.ref 64, .int (-1), .int 0]))))).set 63 (.inr (.inr (.inr (3, [.ref 64, .int (-1), .int 0]))))) (some (.int 0), ((((w0.set 63 (.inr (.inr (.inr (3, [.ref 64, .int (-1), .int 0]))))).set 63 (.inr (.inr (.inr (3, [.ref 64, .int (-1), .int 0]))))).set 76 (.inl [0, 0, 0, 0, 0, 0, 0, 0])).set 79 (.inl [0, 0, 0, 0, 0, 0, 0, (-1)]))) := by
  refine Ef.in (md := mX6_show) (L := [some (.ref 65), some (.int 7), some (.int (-1))]) rfl (Nat.le_of_ble_eq_true rfl) rfl ?_
  refine E_aload_n rfl rfl ?_
  refine E_iload_n rfl rfl ?_
  refine E_callV (v := some (.int 1)) (As := [.ref 65, .int 7]) (r0 := []) (cs2 := ((w0.set 63 (.inr (.inr (.inr (3, [.ref 64, .int (-1), .int 0]))))).set 63 (.inr (.inr (.inr (3, [.ref 64, .int (-1), .int 0])))))) rfl rfl rfl (Nat.le_of_ble_eq_true rfl) rfl rfl c167_X6_isShelf (by decide) rfl ?_
  refine E_if (t := 21) (b := false) rfl rfl (by decide) ?_
  refine E_iload_n rfl rfl ?_
  refine E_iconst (x := (-1)) rfl (by decide) ?_
  refine E_ic (t := 27) (b := true) rfl rfl (by decide) ?_
  refine E_aload_n rfl rfl ?_
  refine E_getfield (v := .ref 76) rfl rfl rfl (by decide) rfl ?_
  refine E_iload_n rfl rfl ?_
  refine E_iload_n rfl rfl ?_
  refine E_iconst (x := (-1)) rfl (by decide) ?_
  refine E_ic (t := 41) (b := false) rfl rfl (by decide) ?_
  refine E_iconst (x := 0) rfl (by decide) ?_
  refine E_goto (t := 42) rfl rfl ?_
  refine E_iastore (j := 7) (cs2 := (((w0.set 63 (.inr (.inr (.inr (3, [.ref 64, .int (-1), .int 0]))))).set 63 (.inr (.inr (.inr (3, [.ref 64, .int (-1), .int 0]))))).set 76 (.inl [0, 0, 0, 0, 0, 0, 0, 0]))) rfl rfl (by decide) (by decide) (Nat.le_of_ble_eq_true rfl) rfl ?_
  refine E_aload_n rfl rfl ?_
  refine E_getfield (v := .ref 79) rfl rfl rfl (by decide) rfl ?_
  refine E_iload_n rfl rfl ?_
  refine E_iload_n rfl rfl ?_
  refine E_iastore (j := 7) (cs2 := ((((w0.set 63 (.inr (.inr (.inr (3, [.ref 64, .int (-1), .int 0]))))).set 63 (.inr (.inr (.inr (3, [.ref 64, .int (-1), .int 0]))))).set 76 (.inl [0, 0, 0, 0, 0, 0, 0, 0])).set 79 (.inl [0, 0, 0, 0, 0, 0, 0, (-1)]))) rfl rfl (by decide) (by decide) (Nat.le_of_ble_eq_true rfl) rfl ?_
  refine E_iload_n rfl rfl ?_
  refine E_iconst (x := (-1)) rfl (by decide) ?_
  refine E_ic (t := 59) (b := false) rfl rfl (by decide) ?_
  refine E_iconst (x := 0) rfl (by decide) ?_
  refine E_goto (t := 60) rfl rfl ?_
  exact E_iret rfl rfl
theorem f_show_1 (a1 a2 : Int32) (ha1h : a1.toInt ≤ -1) : p1_P 3 80 2 139 [.ref 0, .int a1, .int a2] [.ref 65, .int a1, .int a2] :=
  ⟨(-1), (w0.set 48 (.inl [0, 1, 0, 0, 0, 0, 0, 0])), ((w0.set 48 (.inl [0, 1, 0, 0, 0, 0, 0, 0])).set 66 (.inl [0, 1, 0, 0, 0, 0, 0, 0])), by
    refine Ef.in (md := mX5_show) (L := [some (.ref 0), some (.int a1), some (.int a2)]) rfl (Nat.le_of_ble_eq_true rfl) rfl ?_
    refine E_iload_n rfl rfl ?_
    have e2 : Ev ab_Z0 1 117 [.int a1] w0 (some (.int 0), w0) := by
      refine Ef.in (md := mX5_isShelf) (L := [some (.int a1)]) rfl (Nat.le_of_ble_eq_true rfl) rfl ?_
      refine E_iload_n rfl rfl ?_
      refine E_if (t := 14) (b := true) rfl rfl ((cn_lt (rfl : (a1).toInt = (a1).toInt) (by decide : (0 : Int32).toInt = 0)).trans (decide_eq_true (by omega))) ?_
      refine E_iconst (x := 0) rfl (by decide) ?_
      exact E_iret rfl rfl
    refine E_callS (v := some (.int 0)) (As := [.int a1]) (r0 := []) (cs2 := w0) rfl rfl rfl (Nat.le_of_ble_eq_true rfl) rfl e2 (by decide) rfl ?_
    refine E_if (t := 23) (b := true) rfl rfl (by decide) ?_
    refine E_aload_n rfl rfl ?_
    refine E_iconst (x := 1) rfl (by decide) ?_
    refine E_callV (v := some (.int (-1))) (As := [.ref 0, .int 1]) (r0 := []) (cs2 := (w0.set 48 (.inl [0, 1, 0, 0, 0, 0, 0, 0]))) rfl rfl rfl (Nat.le_of_ble_eq_true rfl) rfl rfl c1_X5_refuse (by decide) (by simp only [List.length_set]) ?_
    exact E_iret rfl rfl, by
    refine Ef.in (md := mX6_show) (L := [some (.ref 65), some (.int a1), some (.int a2)]) rfl (Nat.le_of_ble_eq_true rfl) rfl ?_
    refine E_aload_n rfl rfl ?_
    refine E_iload_n rfl rfl ?_
    have e3 : Ev ab_Z0 1 131 [.ref 65, .int a1] (w0.set 48 (.inl [0, 1, 0, 0, 0, 0, 0, 0])) (some (.int 0), (w0.set 48 (.inl [0, 1, 0, 0, 0, 0, 0, 0]))) := by
      refine Ef.in (md := mX6_isShelf) (L := [some (.ref 65), some (.int a1)]) rfl (Nat.le_of_ble_eq_true rfl) rfl ?_
      refine E_iload_n rfl rfl ?_
      refine E_if (t := 14) (b := true) rfl rfl ((cn_lt (rfl : (a1).toInt = (a1).toInt) (by decide : (0 : Int32).toInt = 0)).trans (decide_eq_true (by omega))) ?_
      refine E_iconst (x := 0) rfl (by decide) ?_
      exact E_iret rfl rfl
    refine E_callV (v := some (.int 0)) (As := [.ref 65, .int a1]) (r0 := []) (cs2 := (w0.set 48 (.inl [0, 1, 0, 0, 0, 0, 0, 0]))) rfl rfl rfl (Nat.le_of_ble_eq_true rfl) rfl rfl e3 (by decide) rfl ?_
    refine E_if (t := 21) (b := true) rfl rfl (by decide) ?_
    refine E_aload_n rfl rfl ?_
    refine E_iconst (x := (-1)) rfl (by decide) ?_
    refine E_callV (v := some (.int (-1))) (As := [.ref 65, .int (-1)]) (r0 := []) (cs2 := ((w0.set 48 (.inl [0, 1, 0, 0, 0, 0, 0, 0])).set 66 (.inl [0, 1, 0, 0, 0, 0, 0, 0]))) rfl rfl rfl (Nat.le_of_ble_eq_true rfl) rfl rfl c3_X6_no (by decide) (by simp only [List.length_set]) ?_
    exact E_iret rfl rfl, (by simp only [List.length_set]; rfl), (by simp only [List.length_set]; rfl), ((ab_szs rfl).trans ((ab_szs rfl).trans rfl)), fun _ => rfl⟩
theorem f_show_2 (a1 a2 : Int32) (ha1l : (0 : Int) ≤ a1.toInt) (ha1h : a1.toInt ≤ 7) (ha2h : a2.toInt ≤ -2) : p1_P 3 80 2 139 [.ref 0, .int a1, .int a2] [.ref 65, .int a1, .int a2] :=
  ⟨(-1), (w0.set 48 (.inl [0, 1, 0, 0, 0, 0, 0, 0])), ((w0.set 48 (.inl [0, 1, 0, 0, 0, 0, 0, 0])).set 66 (.inl [0, 1, 0, 0, 0, 0, 0, 0])), by
    refine Ef.in (md := mX5_show) (L := [some (.ref 0), some (.int a1), some (.int a2)]) rfl (Nat.le_of_ble_eq_true rfl) rfl ?_
    refine E_iload_n rfl rfl ?_
    have e2 : Ev ab_Z0 1 117 [.int a1] w0 (some (.int 1), w0) := by
      refine Ef.in (md := mX5_isShelf) (L := [some (.int a1)]) rfl (Nat.le_of_ble_eq_true rfl) rfl ?_
      refine E_iload_n rfl rfl ?_
      refine E_if (t := 14) (b := false) rfl rfl ((cn_lt (rfl : (a1).toInt = (a1).toInt) (by decide : (0 : Int32).toInt = 0)).trans (decide_eq_false (by omega))) ?_
      refine E_iload_n rfl rfl ?_
      refine E_bipush (x := 8) rfl (by decide) ?_
      refine E_ic (t := 14) (b := false) rfl rfl ((cn_ge (rfl : (a1).toInt = (a1).toInt) (by decide : (8 : Int32).toInt = 8)).trans (decide_eq_false (by omega))) ?_
      refine E_iconst (x := 1) rfl (by decide) ?_
      refine E_goto (t := 15) rfl rfl ?_
      exact E_iret rfl rfl
    refine E_callS (v := some (.int 1)) (As := [.int a1]) (r0 := []) (cs2 := w0) rfl rfl rfl (Nat.le_of_ble_eq_true rfl) rfl e2 (by decide) rfl ?_
    refine E_if (t := 23) (b := false) rfl rfl (by decide) ?_
    refine E_iload_n rfl rfl ?_
    refine E_iconst (x := (-1)) rfl (by decide) ?_
    refine E_ic (t := 29) (b := false) rfl rfl ((cn_eq (rfl : (a2).toInt = (a2).toInt) (by decide : ((-1) : Int32).toInt = (-1))).trans (decide_eq_false (by omega))) ?_
    refine E_aload_n rfl rfl ?_
    refine E_getfield (v := .ref 1) rfl rfl rfl (by decide) rfl ?_
    refine E_iload_n rfl rfl ?_
    have e20 : Ev ab_Z0 1 50 [.ref 1, .int a2] w0 (some (.int 0), w0) := by
      refine Ef.in (md := mX4_isPiece) (L := [some (.ref 1), some (.int a2)]) rfl (Nat.le_of_ble_eq_true rfl) rfl ?_
      refine E_iload_n rfl rfl ?_
      refine E_if (t := 16) (b := true) rfl rfl ((cn_lt (rfl : (a2).toInt = (a2).toInt) (by decide : (0 : Int32).toInt = 0)).trans (decide_eq_true (by omega))) ?_
      refine E_iconst (x := 0) rfl (by decide) ?_
      exact E_iret rfl rfl
    refine E_callV (v := some (.int 0)) (As := [.ref 1, .int a2]) (r0 := []) (cs2 := w0) rfl rfl rfl (Nat.le_of_ble_eq_true rfl) rfl rfl e20 (by decide) rfl ?_
    refine E_if (t := 29) (b := false) rfl rfl (by decide) ?_
    refine E_aload_n rfl rfl ?_
    refine E_iconst (x := 1) rfl (by decide) ?_
    refine E_callV (v := some (.int (-1))) (As := [.ref 0, .int 1]) (r0 := []) (cs2 := (w0.set 48 (.inl [0, 1, 0, 0, 0, 0, 0, 0]))) rfl rfl rfl (Nat.le_of_ble_eq_true rfl) rfl rfl c1_X5_refuse (by decide) (by simp only [List.length_set]) ?_
    exact E_iret rfl rfl, by
    refine Ef.in (md := mX6_show) (L := [some (.ref 65), some (.int a1), some (.int a2)]) rfl (Nat.le_of_ble_eq_true rfl) rfl ?_
    refine E_aload_n rfl rfl ?_
    refine E_iload_n rfl rfl ?_
    have e3 : Ev ab_Z0 1 131 [.ref 65, .int a1] (w0.set 48 (.inl [0, 1, 0, 0, 0, 0, 0, 0])) (some (.int 1), (w0.set 48 (.inl [0, 1, 0, 0, 0, 0, 0, 0]))) := by
      refine Ef.in (md := mX6_isShelf) (L := [some (.ref 65), some (.int a1)]) rfl (Nat.le_of_ble_eq_true rfl) rfl ?_
      refine E_iload_n rfl rfl ?_
      refine E_if (t := 14) (b := false) rfl rfl ((cn_lt (rfl : (a1).toInt = (a1).toInt) (by decide : (0 : Int32).toInt = 0)).trans (decide_eq_false (by omega))) ?_
      refine E_iload_n rfl rfl ?_
      refine E_bipush (x := 8) rfl (by decide) ?_
      refine E_ic (t := 14) (b := false) rfl rfl ((cn_ge (rfl : (a1).toInt = (a1).toInt) (by decide : (8 : Int32).toInt = 8)).trans (decide_eq_false (by omega))) ?_
      refine E_iconst (x := 1) rfl (by decide) ?_
      refine E_goto (t := 15) rfl rfl ?_
      exact E_iret rfl rfl
    refine E_callV (v := some (.int 1)) (As := [.ref 65, .int a1]) (r0 := []) (cs2 := (w0.set 48 (.inl [0, 1, 0, 0, 0, 0, 0, 0]))) rfl rfl rfl (Nat.le_of_ble_eq_true rfl) rfl rfl e3 (by decide) rfl ?_
    refine E_if (t := 21) (b := false) rfl rfl (by decide) ?_
    refine E_iload_n rfl rfl ?_
    refine E_iconst (x := (-1)) rfl (by decide) ?_
    refine E_ic (t := 27) (b := false) rfl rfl ((cn_eq (rfl : (a2).toInt = (a2).toInt) (by decide : ((-1) : Int32).toInt = (-1))).trans (decide_eq_false (by omega))) ?_
    refine E_aload_n rfl rfl ?_
    refine E_iload_n rfl rfl ?_
    have e20 : Ev ab_Z0 1 132 [.ref 65, .int a2] (w0.set 48 (.inl [0, 1, 0, 0, 0, 0, 0, 0])) (some (.int 0), (w0.set 48 (.inl [0, 1, 0, 0, 0, 0, 0, 0]))) := by
      refine Ef.in (md := mX6_isPiece) (L := [some (.ref 65), some (.int a2)]) rfl (Nat.le_of_ble_eq_true rfl) rfl ?_
      refine E_iload_n rfl rfl ?_
      refine E_if (t := 16) (b := true) rfl rfl ((cn_lt (rfl : (a2).toInt = (a2).toInt) (by decide : (0 : Int32).toInt = 0)).trans (decide_eq_true (by omega))) ?_
      refine E_iconst (x := 0) rfl (by decide) ?_
      exact E_iret rfl rfl
    refine E_callV (v := some (.int 0)) (As := [.ref 65, .int a2]) (r0 := []) (cs2 := (w0.set 48 (.inl [0, 1, 0, 0, 0, 0, 0, 0]))) rfl rfl rfl (Nat.le_of_ble_eq_true rfl) rfl rfl e20 (by decide) rfl ?_
    refine E_if (t := 27) (b := false) rfl rfl (by decide) ?_
    refine E_aload_n rfl rfl ?_
    refine E_iconst (x := (-1)) rfl (by decide) ?_
    refine E_callV (v := some (.int (-1))) (As := [.ref 65, .int (-1)]) (r0 := []) (cs2 := ((w0.set 48 (.inl [0, 1, 0, 0, 0, 0, 0, 0])).set 66 (.inl [0, 1, 0, 0, 0, 0, 0, 0]))) rfl rfl rfl (Nat.le_of_ble_eq_true rfl) rfl rfl c3_X6_no (by decide) (by simp only [List.length_set]) ?_
    exact E_iret rfl rfl, (by simp only [List.length_set]; rfl), (by simp only [List.length_set]; rfl), ((ab_szs rfl).trans ((ab_szs rfl).trans rfl)), fun _ => rfl⟩
theorem f_show_3 : p1_P 3 80 2 139 [.ref 0, .int 0, .int (-1)] [.ref 65, .int 0, .int (-1)] :=
  ⟨0, ((w0.set 49 (.inr (.inr (.inr (3, [.ref 50, .int (-1), .int 0]))))).set 49 (.inr (.inr (.inr (3, [.ref 50, .int (-1), .int 0]))))), ((((w0.set 49 (.inr (.inr (.inr (3, [.ref 50, .int (-1), .int 0]))))).set 49 (.inr (.inr (.inr (3, [.ref 50, .int (-1), .int 0]))))).set 76 (.inl [0, 0, 0, 0, 0, 0, 0, 0])).set 79 (.inl [(-1), 0, 0, 0, 0, 0, 0, 0])), by
    exact c136_X5_show, by
    exact c138_X6_show, (by simp only [List.length_set]; rfl), (by simp only [List.length_set]; rfl), ((ab_szs rfl).trans ((ab_szs rfl).trans ((ab_szs rfl).trans ((ab_szs rfl).trans rfl)))), fun _ => rfl⟩
theorem f_show_4 : p1_P 3 80 2 139 [.ref 0, .int 1, .int (-1)] [.ref 65, .int 1, .int (-1)] :=
  ⟨0, ((w0.set 51 (.inr (.inr (.inr (3, [.ref 52, .int (-1), .int 0]))))).set 51 (.inr (.inr (.inr (3, [.ref 52, .int (-1), .int 0]))))), ((((w0.set 51 (.inr (.inr (.inr (3, [.ref 52, .int (-1), .int 0]))))).set 51 (.inr (.inr (.inr (3, [.ref 52, .int (-1), .int 0]))))).set 76 (.inl [0, 0, 0, 0, 0, 0, 0, 0])).set 79 (.inl [0, (-1), 0, 0, 0, 0, 0, 0])), by
    exact c140_X5_show, by
    exact c142_X6_show, (by simp only [List.length_set]; rfl), (by simp only [List.length_set]; rfl), ((ab_szs rfl).trans ((ab_szs rfl).trans ((ab_szs rfl).trans ((ab_szs rfl).trans rfl)))), fun _ => rfl⟩
theorem f_show_5 : p1_P 3 80 2 139 [.ref 0, .int 2, .int (-1)] [.ref 65, .int 2, .int (-1)] :=
  ⟨0, ((w0.set 53 (.inr (.inr (.inr (3, [.ref 54, .int (-1), .int 0]))))).set 53 (.inr (.inr (.inr (3, [.ref 54, .int (-1), .int 0]))))), ((((w0.set 53 (.inr (.inr (.inr (3, [.ref 54, .int (-1), .int 0]))))).set 53 (.inr (.inr (.inr (3, [.ref 54, .int (-1), .int 0]))))).set 76 (.inl [0, 0, 0, 0, 0, 0, 0, 0])).set 79 (.inl [0, 0, (-1), 0, 0, 0, 0, 0])), by
    exact c144_X5_show, by
    exact c146_X6_show, (by simp only [List.length_set]; rfl), (by simp only [List.length_set]; rfl), ((ab_szs rfl).trans ((ab_szs rfl).trans ((ab_szs rfl).trans ((ab_szs rfl).trans rfl)))), fun _ => rfl⟩
theorem f_show_6 : p1_P 3 80 2 139 [.ref 0, .int 3, .int (-1)] [.ref 65, .int 3, .int (-1)] :=
  ⟨0, ((w0.set 55 (.inr (.inr (.inr (3, [.ref 56, .int (-1), .int 0]))))).set 55 (.inr (.inr (.inr (3, [.ref 56, .int (-1), .int 0]))))), ((((w0.set 55 (.inr (.inr (.inr (3, [.ref 56, .int (-1), .int 0]))))).set 55 (.inr (.inr (.inr (3, [.ref 56, .int (-1), .int 0]))))).set 76 (.inl [0, 0, 0, 0, 0, 0, 0, 0])).set 79 (.inl [0, 0, 0, (-1), 0, 0, 0, 0])), by
    exact c148_X5_show, by
    exact c150_X6_show, (by simp only [List.length_set]; rfl), (by simp only [List.length_set]; rfl), ((ab_szs rfl).trans ((ab_szs rfl).trans ((ab_szs rfl).trans ((ab_szs rfl).trans rfl)))), fun _ => rfl⟩
theorem f_show_7 : p1_P 3 80 2 139 [.ref 0, .int 4, .int (-1)] [.ref 65, .int 4, .int (-1)] :=
  ⟨0, ((w0.set 57 (.inr (.inr (.inr (3, [.ref 58, .int (-1), .int 0]))))).set 57 (.inr (.inr (.inr (3, [.ref 58, .int (-1), .int 0]))))), ((((w0.set 57 (.inr (.inr (.inr (3, [.ref 58, .int (-1), .int 0]))))).set 57 (.inr (.inr (.inr (3, [.ref 58, .int (-1), .int 0]))))).set 76 (.inl [0, 0, 0, 0, 0, 0, 0, 0])).set 79 (.inl [0, 0, 0, 0, (-1), 0, 0, 0])), by
    exact c152_X5_show, by
    exact c154_X6_show, (by simp only [List.length_set]; rfl), (by simp only [List.length_set]; rfl), ((ab_szs rfl).trans ((ab_szs rfl).trans ((ab_szs rfl).trans ((ab_szs rfl).trans rfl)))), fun _ => rfl⟩
theorem f_show_8 : p1_P 3 80 2 139 [.ref 0, .int 5, .int (-1)] [.ref 65, .int 5, .int (-1)] :=
  ⟨0, ((w0.set 59 (.inr (.inr (.inr (3, [.ref 60, .int (-1), .int 0]))))).set 59 (.inr (.inr (.inr (3, [.ref 60, .int (-1), .int 0]))))), ((((w0.set 59 (.inr (.inr (.inr (3, [.ref 60, .int (-1), .int 0]))))).set 59 (.inr (.inr (.inr (3, [.ref 60, .int (-1), .int 0]))))).set 76 (.inl [0, 0, 0, 0, 0, 0, 0, 0])).set 79 (.inl [0, 0, 0, 0, 0, (-1), 0, 0])), by
    exact c156_X5_show, by
    exact c158_X6_show, (by simp only [List.length_set]; rfl), (by simp only [List.length_set]; rfl), ((ab_szs rfl).trans ((ab_szs rfl).trans ((ab_szs rfl).trans ((ab_szs rfl).trans rfl)))), fun _ => rfl⟩
theorem f_show_9 : p1_P 3 80 2 139 [.ref 0, .int 6, .int (-1)] [.ref 65, .int 6, .int (-1)] :=
  ⟨0, ((w0.set 61 (.inr (.inr (.inr (3, [.ref 62, .int (-1), .int 0]))))).set 61 (.inr (.inr (.inr (3, [.ref 62, .int (-1), .int 0]))))), ((((w0.set 61 (.inr (.inr (.inr (3, [.ref 62, .int (-1), .int 0]))))).set 61 (.inr (.inr (.inr (3, [.ref 62, .int (-1), .int 0]))))).set 76 (.inl [0, 0, 0, 0, 0, 0, 0, 0])).set 79 (.inl [0, 0, 0, 0, 0, 0, (-1), 0])), by
    exact c160_X5_show, by
    exact c162_X6_show, (by simp only [List.length_set]; rfl), (by simp only [List.length_set]; rfl), ((ab_szs rfl).trans ((ab_szs rfl).trans ((ab_szs rfl).trans ((ab_szs rfl).trans rfl)))), fun _ => rfl⟩
theorem f_show_10 : p1_P 3 80 2 139 [.ref 0, .int 7, .int (-1)] [.ref 65, .int 7, .int (-1)] :=
  ⟨0, ((w0.set 63 (.inr (.inr (.inr (3, [.ref 64, .int (-1), .int 0]))))).set 63 (.inr (.inr (.inr (3, [.ref 64, .int (-1), .int 0]))))), ((((w0.set 63 (.inr (.inr (.inr (3, [.ref 64, .int (-1), .int 0]))))).set 63 (.inr (.inr (.inr (3, [.ref 64, .int (-1), .int 0]))))).set 76 (.inl [0, 0, 0, 0, 0, 0, 0, 0])).set 79 (.inl [0, 0, 0, 0, 0, 0, 0, (-1)])), by
    exact c164_X5_show, by
    exact c166_X6_show, (by simp only [List.length_set]; rfl), (by simp only [List.length_set]; rfl), ((ab_szs rfl).trans ((ab_szs rfl).trans ((ab_szs rfl).trans ((ab_szs rfl).trans rfl)))), fun _ => rfl⟩
theorem f_show_11 (a1 a2 : Int32) (ha1l : (0 : Int) ≤ a1.toInt) (ha1h : a1.toInt ≤ 7) (ha2l : (0 : Int) ≤ a2.toInt) : p1_P 3 80 2 139 [.ref 0, .int a1, .int a2] [.ref 65, .int a1, .int a2] :=
  ⟨(-1), (w0.set 48 (.inl [0, 1, 0, 0, 0, 0, 0, 0])), ((w0.set 48 (.inl [0, 1, 0, 0, 0, 0, 0, 0])).set 66 (.inl [0, 1, 0, 0, 0, 0, 0, 0])), by
    refine Ef.in (md := mX5_show) (L := [some (.ref 0), some (.int a1), some (.int a2)]) rfl (Nat.le_of_ble_eq_true rfl) rfl ?_
    refine E_iload_n rfl rfl ?_
    have e2 : Ev ab_Z0 1 117 [.int a1] w0 (some (.int 1), w0) := by
      refine Ef.in (md := mX5_isShelf) (L := [some (.int a1)]) rfl (Nat.le_of_ble_eq_true rfl) rfl ?_
      refine E_iload_n rfl rfl ?_
      refine E_if (t := 14) (b := false) rfl rfl ((cn_lt (rfl : (a1).toInt = (a1).toInt) (by decide : (0 : Int32).toInt = 0)).trans (decide_eq_false (by omega))) ?_
      refine E_iload_n rfl rfl ?_
      refine E_bipush (x := 8) rfl (by decide) ?_
      refine E_ic (t := 14) (b := false) rfl rfl ((cn_ge (rfl : (a1).toInt = (a1).toInt) (by decide : (8 : Int32).toInt = 8)).trans (decide_eq_false (by omega))) ?_
      refine E_iconst (x := 1) rfl (by decide) ?_
      refine E_goto (t := 15) rfl rfl ?_
      exact E_iret rfl rfl
    refine E_callS (v := some (.int 1)) (As := [.int a1]) (r0 := []) (cs2 := w0) rfl rfl rfl (Nat.le_of_ble_eq_true rfl) rfl e2 (by decide) rfl ?_
    refine E_if (t := 23) (b := false) rfl rfl (by decide) ?_
    refine E_iload_n rfl rfl ?_
    refine E_iconst (x := (-1)) rfl (by decide) ?_
    refine E_ic (t := 29) (b := false) rfl rfl ((cn_eq (rfl : (a2).toInt = (a2).toInt) (by decide : ((-1) : Int32).toInt = (-1))).trans (decide_eq_false (by omega))) ?_
    refine E_aload_n rfl rfl ?_
    refine E_getfield (v := .ref 1) rfl rfl rfl (by decide) rfl ?_
    refine E_iload_n rfl rfl ?_
    have e20 : Ev ab_Z0 1 50 [.ref 1, .int a2] w0 (some (.int 0), w0) := by
      refine Ef.in (md := mX4_isPiece) (L := [some (.ref 1), some (.int a2)]) rfl (Nat.le_of_ble_eq_true rfl) rfl ?_
      refine E_iload_n rfl rfl ?_
      refine E_if (t := 16) (b := false) rfl rfl ((cn_lt (rfl : (a2).toInt = (a2).toInt) (by decide : (0 : Int32).toInt = 0)).trans (decide_eq_false (by omega))) ?_
      refine E_iload_n rfl rfl ?_
      refine E_aload_n rfl rfl ?_
      refine E_getfield (v := .int 0) rfl rfl rfl (by decide) rfl ?_
      refine E_ic (t := 16) (b := true) rfl rfl ((cn_ge (rfl : (a2).toInt = (a2).toInt) (by decide : (0 : Int32).toInt = 0)).trans (decide_eq_true (by omega))) ?_
      refine E_iconst (x := 0) rfl (by decide) ?_
      exact E_iret rfl rfl
    refine E_callV (v := some (.int 0)) (As := [.ref 1, .int a2]) (r0 := []) (cs2 := w0) rfl rfl rfl (Nat.le_of_ble_eq_true rfl) rfl rfl e20 (by decide) rfl ?_
    refine E_if (t := 29) (b := false) rfl rfl (by decide) ?_
    refine E_aload_n rfl rfl ?_
    refine E_iconst (x := 1) rfl (by decide) ?_
    refine E_callV (v := some (.int (-1))) (As := [.ref 0, .int 1]) (r0 := []) (cs2 := (w0.set 48 (.inl [0, 1, 0, 0, 0, 0, 0, 0]))) rfl rfl rfl (Nat.le_of_ble_eq_true rfl) rfl rfl c1_X5_refuse (by decide) (by simp only [List.length_set]) ?_
    exact E_iret rfl rfl, by
    refine Ef.in (md := mX6_show) (L := [some (.ref 65), some (.int a1), some (.int a2)]) rfl (Nat.le_of_ble_eq_true rfl) rfl ?_
    refine E_aload_n rfl rfl ?_
    refine E_iload_n rfl rfl ?_
    have e3 : Ev ab_Z0 1 131 [.ref 65, .int a1] (w0.set 48 (.inl [0, 1, 0, 0, 0, 0, 0, 0])) (some (.int 1), (w0.set 48 (.inl [0, 1, 0, 0, 0, 0, 0, 0]))) := by
      refine Ef.in (md := mX6_isShelf) (L := [some (.ref 65), some (.int a1)]) rfl (Nat.le_of_ble_eq_true rfl) rfl ?_
      refine E_iload_n rfl rfl ?_
      refine E_if (t := 14) (b := false) rfl rfl ((cn_lt (rfl : (a1).toInt = (a1).toInt) (by decide : (0 : Int32).toInt = 0)).trans (decide_eq_false (by omega))) ?_
      refine E_iload_n rfl rfl ?_
      refine E_bipush (x := 8) rfl (by decide) ?_
      refine E_ic (t := 14) (b := false) rfl rfl ((cn_ge (rfl : (a1).toInt = (a1).toInt) (by decide : (8 : Int32).toInt = 8)).trans (decide_eq_false (by omega))) ?_
      refine E_iconst (x := 1) rfl (by decide) ?_
      refine E_goto (t := 15) rfl rfl ?_
      exact E_iret rfl rfl
    refine E_callV (v := some (.int 1)) (As := [.ref 65, .int a1]) (r0 := []) (cs2 := (w0.set 48 (.inl [0, 1, 0, 0, 0, 0, 0, 0]))) rfl rfl rfl (Nat.le_of_ble_eq_true rfl) rfl rfl e3 (by decide) rfl ?_
    refine E_if (t := 21) (b := false) rfl rfl (by decide) ?_
    refine E_iload_n rfl rfl ?_
    refine E_iconst (x := (-1)) rfl (by decide) ?_
    refine E_ic (t := 27) (b := false) rfl rfl ((cn_eq (rfl : (a2).toInt = (a2).toInt) (by decide : ((-1) : Int32).toInt = (-1))).trans (decide_eq_false (by omega))) ?_
    refine E_aload_n rfl rfl ?_
    refine E_iload_n rfl rfl ?_
    have e20 : Ev ab_Z0 1 132 [.ref 65, .int a2] (w0.set 48 (.inl [0, 1, 0, 0, 0, 0, 0, 0])) (some (.int 0), (w0.set 48 (.inl [0, 1, 0, 0, 0, 0, 0, 0]))) := by
      refine Ef.in (md := mX6_isPiece) (L := [some (.ref 65), some (.int a2)]) rfl (Nat.le_of_ble_eq_true rfl) rfl ?_
      refine E_iload_n rfl rfl ?_
      refine E_if (t := 16) (b := false) rfl rfl ((cn_lt (rfl : (a2).toInt = (a2).toInt) (by decide : (0 : Int32).toInt = 0)).trans (decide_eq_false (by omega))) ?_
      refine E_iload_n rfl rfl ?_
      refine E_aload_n rfl rfl ?_
      refine E_getfield (v := .int 0) rfl rfl rfl (by decide) rfl ?_
      refine E_ic (t := 16) (b := true) rfl rfl ((cn_ge (rfl : (a2).toInt = (a2).toInt) (by decide : (0 : Int32).toInt = 0)).trans (decide_eq_true (by omega))) ?_
      refine E_iconst (x := 0) rfl (by decide) ?_
      exact E_iret rfl rfl
    refine E_callV (v := some (.int 0)) (As := [.ref 65, .int a2]) (r0 := []) (cs2 := (w0.set 48 (.inl [0, 1, 0, 0, 0, 0, 0, 0]))) rfl rfl rfl (Nat.le_of_ble_eq_true rfl) rfl rfl e20 (by decide) rfl ?_
    refine E_if (t := 27) (b := false) rfl rfl (by decide) ?_
    refine E_aload_n rfl rfl ?_
    refine E_iconst (x := (-1)) rfl (by decide) ?_
    refine E_callV (v := some (.int (-1))) (As := [.ref 65, .int (-1)]) (r0 := []) (cs2 := ((w0.set 48 (.inl [0, 1, 0, 0, 0, 0, 0, 0])).set 66 (.inl [0, 1, 0, 0, 0, 0, 0, 0]))) rfl rfl rfl (Nat.le_of_ble_eq_true rfl) rfl rfl c3_X6_no (by decide) (by simp only [List.length_set]) ?_
    exact E_iret rfl rfl, (by simp only [List.length_set]; rfl), (by simp only [List.length_set]; rfl), ((ab_szs rfl).trans ((ab_szs rfl).trans rfl)), fun _ => rfl⟩
theorem f_show_12 (a1 a2 : Int32) (ha1l : (8 : Int) ≤ a1.toInt) : p1_P 3 80 2 139 [.ref 0, .int a1, .int a2] [.ref 65, .int a1, .int a2] :=
  ⟨(-1), (w0.set 48 (.inl [0, 1, 0, 0, 0, 0, 0, 0])), ((w0.set 48 (.inl [0, 1, 0, 0, 0, 0, 0, 0])).set 66 (.inl [0, 1, 0, 0, 0, 0, 0, 0])), by
    refine Ef.in (md := mX5_show) (L := [some (.ref 0), some (.int a1), some (.int a2)]) rfl (Nat.le_of_ble_eq_true rfl) rfl ?_
    refine E_iload_n rfl rfl ?_
    have e2 : Ev ab_Z0 1 117 [.int a1] w0 (some (.int 0), w0) := by
      refine Ef.in (md := mX5_isShelf) (L := [some (.int a1)]) rfl (Nat.le_of_ble_eq_true rfl) rfl ?_
      refine E_iload_n rfl rfl ?_
      refine E_if (t := 14) (b := false) rfl rfl ((cn_lt (rfl : (a1).toInt = (a1).toInt) (by decide : (0 : Int32).toInt = 0)).trans (decide_eq_false (by omega))) ?_
      refine E_iload_n rfl rfl ?_
      refine E_bipush (x := 8) rfl (by decide) ?_
      refine E_ic (t := 14) (b := true) rfl rfl ((cn_ge (rfl : (a1).toInt = (a1).toInt) (by decide : (8 : Int32).toInt = 8)).trans (decide_eq_true (by omega))) ?_
      refine E_iconst (x := 0) rfl (by decide) ?_
      exact E_iret rfl rfl
    refine E_callS (v := some (.int 0)) (As := [.int a1]) (r0 := []) (cs2 := w0) rfl rfl rfl (Nat.le_of_ble_eq_true rfl) rfl e2 (by decide) rfl ?_
    refine E_if (t := 23) (b := true) rfl rfl (by decide) ?_
    refine E_aload_n rfl rfl ?_
    refine E_iconst (x := 1) rfl (by decide) ?_
    refine E_callV (v := some (.int (-1))) (As := [.ref 0, .int 1]) (r0 := []) (cs2 := (w0.set 48 (.inl [0, 1, 0, 0, 0, 0, 0, 0]))) rfl rfl rfl (Nat.le_of_ble_eq_true rfl) rfl rfl c1_X5_refuse (by decide) (by simp only [List.length_set]) ?_
    exact E_iret rfl rfl, by
    refine Ef.in (md := mX6_show) (L := [some (.ref 65), some (.int a1), some (.int a2)]) rfl (Nat.le_of_ble_eq_true rfl) rfl ?_
    refine E_aload_n rfl rfl ?_
    refine E_iload_n rfl rfl ?_
    have e3 : Ev ab_Z0 1 131 [.ref 65, .int a1] (w0.set 48 (.inl [0, 1, 0, 0, 0, 0, 0, 0])) (some (.int 0), (w0.set 48 (.inl [0, 1, 0, 0, 0, 0, 0, 0]))) := by
      refine Ef.in (md := mX6_isShelf) (L := [some (.ref 65), some (.int a1)]) rfl (Nat.le_of_ble_eq_true rfl) rfl ?_
      refine E_iload_n rfl rfl ?_
      refine E_if (t := 14) (b := false) rfl rfl ((cn_lt (rfl : (a1).toInt = (a1).toInt) (by decide : (0 : Int32).toInt = 0)).trans (decide_eq_false (by omega))) ?_
      refine E_iload_n rfl rfl ?_
      refine E_bipush (x := 8) rfl (by decide) ?_
      refine E_ic (t := 14) (b := true) rfl rfl ((cn_ge (rfl : (a1).toInt = (a1).toInt) (by decide : (8 : Int32).toInt = 8)).trans (decide_eq_true (by omega))) ?_
      refine E_iconst (x := 0) rfl (by decide) ?_
      exact E_iret rfl rfl
    refine E_callV (v := some (.int 0)) (As := [.ref 65, .int a1]) (r0 := []) (cs2 := (w0.set 48 (.inl [0, 1, 0, 0, 0, 0, 0, 0]))) rfl rfl rfl (Nat.le_of_ble_eq_true rfl) rfl rfl e3 (by decide) rfl ?_
    refine E_if (t := 21) (b := true) rfl rfl (by decide) ?_
    refine E_aload_n rfl rfl ?_
    refine E_iconst (x := (-1)) rfl (by decide) ?_
    refine E_callV (v := some (.int (-1))) (As := [.ref 65, .int (-1)]) (r0 := []) (cs2 := ((w0.set 48 (.inl [0, 1, 0, 0, 0, 0, 0, 0])).set 66 (.inl [0, 1, 0, 0, 0, 0, 0, 0]))) rfl rfl rfl (Nat.le_of_ble_eq_true rfl) rfl rfl c3_X6_no (by decide) (by simp only [List.length_set]) ?_
    exact E_iret rfl rfl, (by simp only [List.length_set]; rfl), (by simp only [List.length_set]; rfl), ((ab_szs rfl).trans ((ab_szs rfl).trans rfl)), fun _ => rfl⟩
theorem f_show (a1 a2 : Int32) : p1_P 3 80 2 139 [.ref 0, .int a1, .int a2] [.ref 65, .int a1, .int a2] := by
  rcases ab_ltge a1.toInt (0) with h | h
  · exact f_show_1 a1 a2 (by omega)
  rcases ab_ltge a1.toInt (8) with h | h
  · rcases ab_ltge a2.toInt (-1) with h | h
    · exact f_show_2 a1 a2 (by omega) (by omega) (by omega)
    rcases ab_ltge a2.toInt (0) with h | h
    · obtain rfl : a2 = (-1) := Int32.toInt_inj.mp (by rw [show (((-1) : Int32).toInt = -1) by decide]; omega)
      rcases ab_ltge a1.toInt (1) with h | h
      · obtain rfl : a1 = 0 := Int32.toInt_inj.mp (by rw [show ((0 : Int32).toInt = 0) by decide]; omega)
        exact f_show_3
      rcases ab_ltge a1.toInt (2) with h | h
      · obtain rfl : a1 = 1 := Int32.toInt_inj.mp (by rw [show ((1 : Int32).toInt = 1) by decide]; omega)
        exact f_show_4
      rcases ab_ltge a1.toInt (3) with h | h
      · obtain rfl : a1 = 2 := Int32.toInt_inj.mp (by rw [show ((2 : Int32).toInt = 2) by decide]; omega)
        exact f_show_5
      rcases ab_ltge a1.toInt (4) with h | h
      · obtain rfl : a1 = 3 := Int32.toInt_inj.mp (by rw [show ((3 : Int32).toInt = 3) by decide]; omega)
        exact f_show_6
      rcases ab_ltge a1.toInt (5) with h | h
      · obtain rfl : a1 = 4 := Int32.toInt_inj.mp (by rw [show ((4 : Int32).toInt = 4) by decide]; omega)
        exact f_show_7
      rcases ab_ltge a1.toInt (6) with h | h
      · obtain rfl : a1 = 5 := Int32.toInt_inj.mp (by rw [show ((5 : Int32).toInt = 5) by decide]; omega)
        exact f_show_8
      rcases ab_ltge a1.toInt (7) with h | h
      · obtain rfl : a1 = 6 := Int32.toInt_inj.mp (by rw [show ((6 : Int32).toInt = 6) by decide]; omega)
        exact f_show_9
      obtain rfl : a1 = 7 := Int32.toInt_inj.mp (by rw [show ((7 : Int32).toInt = 7) by decide]; omega)
      exact f_show_10
    exact f_show_11 a1 a2 (by omega) (by omega) (by omega)
  exact f_show_12 a1 a2 (by omega)
