theorem c30_X3_isOtherThanRow : Ev ab_Z0 1 33 [.ref 49] w0 (some (.int 0), w0) := by
  refine Ef.in (md := mX3_isOtherThanRow) (L := [some (.ref 49)]) rfl (Nat.le_of_ble_eq_true rfl) rfl ?_
  refine E_aload_n rfl rfl ?_
  refine E_getfield (v := .int (-1)) rfl rfl rfl (by decide) rfl ?_
  refine E_if (t := 20) (b := true) rfl rfl (by decide) ?_
  refine E_iconst (x := 0) rfl (by decide) ?_
  exact E_iret rfl rfl
theorem c31_X3_isEmpty : Ev ab_Z0 1 32 [.ref 49] w0 (some (.int 1), w0) := by
  refine Ef.in (md := mX3_isEmpty) (L := [some (.ref 49)]) rfl (Nat.le_of_ble_eq_true rfl) rfl ?_
  refine E_aload_n rfl rfl ?_
  refine E_getfield (v := .int (-1)) rfl rfl rfl (by decide) rfl ?_
  refine E_iconst (x := (-1)) rfl (by decide) ?_
  refine E_ic (t := 12) (b := false) rfl rfl (by decide) ?_
  refine E_iconst (x := 1) rfl (by decide) ?_
  refine E_goto (t := 13) rfl rfl ?_
  exact E_iret rfl rfl
theorem c29_X5_whyNoRow : Ev ab_Z0 2 119 [.ref 0, .int 0] w0 (some (.int 3), w0) := by
  refine Ef.in (md := mX5_whyNoRow) (L := [some (.ref 0), some (.int 0)]) rfl (Nat.le_of_ble_eq_true rfl) rfl ?_
  refine E_iload_n rfl rfl ?_
  refine E_callS (v := some (.int 1)) (As := [.int 0]) (r0 := []) (cs2 := w0) rfl rfl rfl (Nat.le_of_ble_eq_true rfl) rfl c10_X5_isShelf (by decide) rfl ?_
  refine E_if (t := 9) (b := true) rfl rfl (by decide) ?_
  refine E_aload_n rfl rfl ?_
  refine E_getfield (v := .ref 31) rfl rfl rfl (by decide) rfl ?_
  refine E_iload_n rfl rfl ?_
  refine E_aaload (b := 49) (j := 0) rfl rfl (by decide) (by decide) rfl ?_
  refine E_callV (v := some (.int 0)) (As := [.ref 49]) (r0 := []) (cs2 := w0) rfl rfl rfl (Nat.le_of_ble_eq_true rfl) rfl rfl c30_X3_isOtherThanRow (by decide) rfl ?_
  refine E_if (t := 23) (b := true) rfl rfl (by decide) ?_
  refine E_aload_n rfl rfl ?_
  refine E_getfield (v := .ref 31) rfl rfl rfl (by decide) rfl ?_
  refine E_iload_n rfl rfl ?_
  refine E_aaload (b := 49) (j := 0) rfl rfl (by decide) (by decide) rfl ?_
  refine E_callV (v := some (.int 1)) (As := [.ref 49]) (r0 := []) (cs2 := w0) rfl rfl rfl (Nat.le_of_ble_eq_true rfl) rfl rfl c31_X3_isEmpty (by decide) rfl ?_
  refine E_if (t := 39) (b := false) rfl rfl (by decide) ?_
  refine E_iconst (x := 3) rfl (by decide) ?_
  refine E_goto (t := 40) rfl rfl ?_
  exact E_iret rfl rfl
theorem c33_X5_isFrom : Ev ab_Z0 1 115 [.int 3, .int 1, .int 7] w0 (some (.int 1), w0) := by
  refine Ef.in (md := mX5_isFrom) (L := [some (.int 3), some (.int 1), some (.int 7)]) rfl (Nat.le_of_ble_eq_true rfl) rfl ?_
  refine E_iload_n rfl rfl ?_
  refine E_iload_n rfl rfl ?_
  refine E_ic (t := 14) (b := false) rfl rfl (by decide) ?_
  refine E_iload_n rfl rfl ?_
  refine E_iload_n rfl rfl ?_
  refine E_ic (t := 14) (b := false) rfl rfl (by decide) ?_
  refine E_iconst (x := 1) rfl (by decide) ?_
  refine E_goto (t := 15) rfl rfl ?_
  exact E_iret rfl rfl
theorem c32_X5_refuse : Ev ab_Z0 2 118 [.ref 0, .int 3] w0 (some (.int (-3)), (w0.set 48 (.inl [0, 0, 0, 1, 0, 0, 0, 0]))) := by
  refine Ef.in (md := mX5_refuse) (L := [some (.ref 0), some (.int 3)]) rfl (Nat.le_of_ble_eq_true rfl) rfl ?_
  refine E_iload_n rfl rfl ?_
  refine E_iconst (x := 1) rfl (by decide) ?_
  refine E_bipush (x := 7) rfl (by decide) ?_
  refine E_callS (v := some (.int 1)) (As := [.int 3, .int 1, .int 7]) (r0 := []) (cs2 := w0) rfl rfl rfl (Nat.le_of_ble_eq_true rfl) rfl c33_X5_isFrom (by decide) rfl ?_
  refine E_if (t := 20) (b := false) rfl rfl (by decide) ?_
  refine E_aload_n rfl rfl ?_
  refine E_getfield (v := .ref 48) rfl rfl rfl (by decide) rfl ?_
  refine E_iload_n rfl rfl ?_
  refine E_dup2 rfl ⟨rfl, rfl⟩ ?_
  refine E_iaload (x := 0) (j := 3) rfl rfl (by decide) (by decide) rfl ?_
  refine E_iconst (x := 1) rfl (by decide) ?_
  refine E_iadd (z := 1) rfl (by decide) ?_
  refine E_iastore (j := 3) (cs2 := (w0.set 48 (.inl [0, 0, 0, 1, 0, 0, 0, 0]))) rfl rfl (by decide) (by decide) (Nat.le_of_ble_eq_true rfl) rfl ?_
  refine E_iload_n rfl rfl ?_
  refine E_ineg (z := (-3)) rfl (by decide) ?_
  exact E_iret rfl rfl
theorem c34_X6_isShelf : Ev ab_Z0 1 131 [.ref 65, .int 0] (w0.set 48 (.inl [0, 0, 0, 1, 0, 0, 0, 0])) (some (.int 1), (w0.set 48 (.inl [0, 0, 0, 1, 0, 0, 0, 0]))) := by
  refine Ef.in (md := mX6_isShelf) (L := [some (.ref 65), some (.int 0)]) rfl (Nat.le_of_ble_eq_true rfl) rfl ?_
  refine E_iload_n rfl rfl ?_
  refine E_if (t := 14) (b := false) rfl rfl (by decide) ?_
  refine E_iload_n rfl rfl ?_
  refine E_bipush (x := 8) rfl (by decide) ?_
  refine E_ic (t := 14) (b := false) rfl rfl (by decide) ?_
  refine E_iconst (x := 1) rfl (by decide) ?_
  refine E_goto (t := 15) rfl rfl ?_
  exact E_iret rfl rfl
theorem c35_X6_no : Ev ab_Z0 1 129 [.ref 65, .int (-3)] (w0.set 48 (.inl [0, 0, 0, 1, 0, 0, 0, 0])) (some (.int (-3)), ((w0.set 48 (.inl [0, 0, 0, 1, 0, 0, 0, 0])).set 66 (.inl [0, 0, 0, 1, 0, 0, 0, 0]))) := by
  refine Ef.in (md := mX6_no) (L := [some (.ref 65), some (.int (-3))]) rfl (Nat.le_of_ble_eq_true rfl) rfl ?_
  refine E_aload_n rfl rfl ?_
  refine E_getfield (v := .ref 66) rfl rfl rfl (by decide) rfl ?_
  refine E_iload_n rfl rfl ?_
  refine E_ineg (z := 3) rfl (by decide) ?_
  refine E_dup2 rfl ⟨rfl, rfl⟩ ?_
  refine E_iaload (x := 0) (j := 3) rfl rfl (by decide) (by decide) rfl ?_
  refine E_iconst (x := 1) rfl (by decide) ?_
  refine E_iadd (z := 1) rfl (by decide) ?_
  refine E_iastore (j := 3) (cs2 := ((w0.set 48 (.inl [0, 0, 0, 1, 0, 0, 0, 0])).set 66 (.inl [0, 0, 0, 1, 0, 0, 0, 0]))) rfl rfl (by decide) (by decide) (Nat.le_of_ble_eq_true rfl) rfl ?_
  refine E_iload_n rfl rfl ?_
  exact E_iret rfl rfl
theorem c37_X3_isOtherThanRow : Ev ab_Z0 1 33 [.ref 51] w0 (some (.int 0), w0) := by
  refine Ef.in (md := mX3_isOtherThanRow) (L := [some (.ref 51)]) rfl (Nat.le_of_ble_eq_true rfl) rfl ?_
  refine E_aload_n rfl rfl ?_
  refine E_getfield (v := .int (-1)) rfl rfl rfl (by decide) rfl ?_
  refine E_if (t := 20) (b := true) rfl rfl (by decide) ?_
  refine E_iconst (x := 0) rfl (by decide) ?_
  exact E_iret rfl rfl
theorem c38_X3_isEmpty : Ev ab_Z0 1 32 [.ref 51] w0 (some (.int 1), w0) := by
  refine Ef.in (md := mX3_isEmpty) (L := [some (.ref 51)]) rfl (Nat.le_of_ble_eq_true rfl) rfl ?_
  refine E_aload_n rfl rfl ?_
  refine E_getfield (v := .int (-1)) rfl rfl rfl (by decide) rfl ?_
  refine E_iconst (x := (-1)) rfl (by decide) ?_
  refine E_ic (t := 12) (b := false) rfl rfl (by decide) ?_
  refine E_iconst (x := 1) rfl (by decide) ?_
  refine E_goto (t := 13) rfl rfl ?_
  exact E_iret rfl rfl
theorem c36_X5_whyNoRow : Ev ab_Z0 2 119 [.ref 0, .int 1] w0 (some (.int 3), w0) := by
  refine Ef.in (md := mX5_whyNoRow) (L := [some (.ref 0), some (.int 1)]) rfl (Nat.le_of_ble_eq_true rfl) rfl ?_
  refine E_iload_n rfl rfl ?_
  refine E_callS (v := some (.int 1)) (As := [.int 1]) (r0 := []) (cs2 := w0) rfl rfl rfl (Nat.le_of_ble_eq_true rfl) rfl c12_X5_isShelf (by decide) rfl ?_
  refine E_if (t := 9) (b := true) rfl rfl (by decide) ?_
  refine E_aload_n rfl rfl ?_
  refine E_getfield (v := .ref 31) rfl rfl rfl (by decide) rfl ?_
  refine E_iload_n rfl rfl ?_
  refine E_aaload (b := 51) (j := 1) rfl rfl (by decide) (by decide) rfl ?_
  refine E_callV (v := some (.int 0)) (As := [.ref 51]) (r0 := []) (cs2 := w0) rfl rfl rfl (Nat.le_of_ble_eq_true rfl) rfl rfl c37_X3_isOtherThanRow (by decide) rfl ?_
  refine E_if (t := 23) (b := true) rfl rfl (by decide) ?_
  refine E_aload_n rfl rfl ?_
  refine E_getfield (v := .ref 31) rfl rfl rfl (by decide) rfl ?_
  refine E_iload_n rfl rfl ?_
  refine E_aaload (b := 51) (j := 1) rfl rfl (by decide) (by decide) rfl ?_
  refine E_callV (v := some (.int 1)) (As := [.ref 51]) (r0 := []) (cs2 := w0) rfl rfl rfl (Nat.le_of_ble_eq_true rfl) rfl rfl c38_X3_isEmpty (by decide) rfl ?_
  refine E_if (t := 39) (b := false) rfl rfl (by decide) ?_
  refine E_iconst (x := 3) rfl (by decide) ?_
  refine E_goto (t := 40) rfl rfl ?_
  exact E_iret rfl rfl
theorem c39_X6_isShelf : Ev ab_Z0 1 131 [.ref 65, .int 1] (w0.set 48 (.inl [0, 0, 0, 1, 0, 0, 0, 0])) (some (.int 1), (w0.set 48 (.inl [0, 0, 0, 1, 0, 0, 0, 0]))) := by
  refine Ef.in (md := mX6_isShelf) (L := [some (.ref 65), some (.int 1)]) rfl (Nat.le_of_ble_eq_true rfl) rfl ?_
  refine E_iload_n rfl rfl ?_
  refine E_if (t := 14) (b := false) rfl rfl (by decide) ?_
  refine E_iload_n rfl rfl ?_
  refine E_bipush (x := 8) rfl (by decide) ?_
  refine E_ic (t := 14) (b := false) rfl rfl (by decide) ?_
  refine E_iconst (x := 1) rfl (by decide) ?_
  refine E_goto (t := 15) rfl rfl ?_
  exact E_iret rfl rfl
theorem c41_X3_isOtherThanRow : Ev ab_Z0 1 33 [.ref 53] w0 (some (.int 0), w0) := by
  refine Ef.in (md := mX3_isOtherThanRow) (L := [some (.ref 53)]) rfl (Nat.le_of_ble_eq_true rfl) rfl ?_
  refine E_aload_n rfl rfl ?_
  refine E_getfield (v := .int (-1)) rfl rfl rfl (by decide) rfl ?_
  refine E_if (t := 20) (b := true) rfl rfl (by decide) ?_
  refine E_iconst (x := 0) rfl (by decide) ?_
  exact E_iret rfl rfl
theorem c42_X3_isEmpty : Ev ab_Z0 1 32 [.ref 53] w0 (some (.int 1), w0) := by
  refine Ef.in (md := mX3_isEmpty) (L := [some (.ref 53)]) rfl (Nat.le_of_ble_eq_true rfl) rfl ?_
  refine E_aload_n rfl rfl ?_
  refine E_getfield (v := .int (-1)) rfl rfl rfl (by decide) rfl ?_
  refine E_iconst (x := (-1)) rfl (by decide) ?_
  refine E_ic (t := 12) (b := false) rfl rfl (by decide) ?_
  refine E_iconst (x := 1) rfl (by decide) ?_
  refine E_goto (t := 13) rfl rfl ?_
  exact E_iret rfl rfl
theorem c40_X5_whyNoRow : Ev ab_Z0 2 119 [.ref 0, .int 2] w0 (some (.int 3), w0) := by
  refine Ef.in (md := mX5_whyNoRow) (L := [some (.ref 0), some (.int 2)]) rfl (Nat.le_of_ble_eq_true rfl) rfl ?_
  refine E_iload_n rfl rfl ?_
  refine E_callS (v := some (.int 1)) (As := [.int 2]) (r0 := []) (cs2 := w0) rfl rfl rfl (Nat.le_of_ble_eq_true rfl) rfl c14_X5_isShelf (by decide) rfl ?_
  refine E_if (t := 9) (b := true) rfl rfl (by decide) ?_
  refine E_aload_n rfl rfl ?_
  refine E_getfield (v := .ref 31) rfl rfl rfl (by decide) rfl ?_
  refine E_iload_n rfl rfl ?_
  refine E_aaload (b := 53) (j := 2) rfl rfl (by decide) (by decide) rfl ?_
  refine E_callV (v := some (.int 0)) (As := [.ref 53]) (r0 := []) (cs2 := w0) rfl rfl rfl (Nat.le_of_ble_eq_true rfl) rfl rfl c41_X3_isOtherThanRow (by decide) rfl ?_
  refine E_if (t := 23) (b := true) rfl rfl (by decide) ?_
  refine E_aload_n rfl rfl ?_
  refine E_getfield (v := .ref 31) rfl rfl rfl (by decide) rfl ?_
  refine E_iload_n rfl rfl ?_
  refine E_aaload (b := 53) (j := 2) rfl rfl (by decide) (by decide) rfl ?_
  refine E_callV (v := some (.int 1)) (As := [.ref 53]) (r0 := []) (cs2 := w0) rfl rfl rfl (Nat.le_of_ble_eq_true rfl) rfl rfl c42_X3_isEmpty (by decide) rfl ?_
  refine E_if (t := 39) (b := false) rfl rfl (by decide) ?_
  refine E_iconst (x := 3) rfl (by decide) ?_
  refine E_goto (t := 40) rfl rfl ?_
  exact E_iret rfl rfl
theorem c43_X6_isShelf : Ev ab_Z0 1 131 [.ref 65, .int 2] (w0.set 48 (.inl [0, 0, 0, 1, 0, 0, 0, 0])) (some (.int 1), (w0.set 48 (.inl [0, 0, 0, 1, 0, 0, 0, 0]))) := by
  refine Ef.in (md := mX6_isShelf) (L := [some (.ref 65), some (.int 2)]) rfl (Nat.le_of_ble_eq_true rfl) rfl ?_
  refine E_iload_n rfl rfl ?_
  refine E_if (t := 14) (b := false) rfl rfl (by decide) ?_
  refine E_iload_n rfl rfl ?_
  refine E_bipush (x := 8) rfl (by decide) ?_
  refine E_ic (t := 14) (b := false) rfl rfl (by decide) ?_
  refine E_iconst (x := 1) rfl (by decide) ?_
  refine E_goto (t := 15) rfl rfl ?_
  exact E_iret rfl rfl
theorem c45_X3_isOtherThanRow : Ev ab_Z0 1 33 [.ref 55] w0 (some (.int 0), w0) := by
  refine Ef.in (md := mX3_isOtherThanRow) (L := [some (.ref 55)]) rfl (Nat.le_of_ble_eq_true rfl) rfl ?_
  refine E_aload_n rfl rfl ?_
  refine E_getfield (v := .int (-1)) rfl rfl rfl (by decide) rfl ?_
  refine E_if (t := 20) (b := true) rfl rfl (by decide) ?_
  refine E_iconst (x := 0) rfl (by decide) ?_
  exact E_iret rfl rfl
theorem c46_X3_isEmpty : Ev ab_Z0 1 32 [.ref 55] w0 (some (.int 1), w0) := by
  refine Ef.in (md := mX3_isEmpty) (L := [some (.ref 55)]) rfl (Nat.le_of_ble_eq_true rfl) rfl ?_
  refine E_aload_n rfl rfl ?_
  refine E_getfield (v := .int (-1)) rfl rfl rfl (by decide) rfl ?_
  refine E_iconst (x := (-1)) rfl (by decide) ?_
  refine E_ic (t := 12) (b := false) rfl rfl (by decide) ?_
  refine E_iconst (x := 1) rfl (by decide) ?_
  refine E_goto (t := 13) rfl rfl ?_
  exact E_iret rfl rfl
theorem c44_X5_whyNoRow : Ev ab_Z0 2 119 [.ref 0, .int 3] w0 (some (.int 3), w0) := by
  refine Ef.in (md := mX5_whyNoRow) (L := [some (.ref 0), some (.int 3)]) rfl (Nat.le_of_ble_eq_true rfl) rfl ?_
  refine E_iload_n rfl rfl ?_
  refine E_callS (v := some (.int 1)) (As := [.int 3]) (r0 := []) (cs2 := w0) rfl rfl rfl (Nat.le_of_ble_eq_true rfl) rfl c16_X5_isShelf (by decide) rfl ?_
  refine E_if (t := 9) (b := true) rfl rfl (by decide) ?_
  refine E_aload_n rfl rfl ?_
  refine E_getfield (v := .ref 31) rfl rfl rfl (by decide) rfl ?_
  refine E_iload_n rfl rfl ?_
  refine E_aaload (b := 55) (j := 3) rfl rfl (by decide) (by decide) rfl ?_
  refine E_callV (v := some (.int 0)) (As := [.ref 55]) (r0 := []) (cs2 := w0) rfl rfl rfl (Nat.le_of_ble_eq_true rfl) rfl rfl c45_X3_isOtherThanRow (by decide) rfl ?_
  refine E_if (t := 23) (b := true) rfl rfl (by decide) ?_
  refine E_aload_n rfl rfl ?_
  refine E_getfield (v := .ref 31) rfl rfl rfl (by decide) rfl ?_
  refine E_iload_n rfl rfl ?_
  refine E_aaload (b := 55) (j := 3) rfl rfl (by decide) (by decide) rfl ?_
  refine E_callV (v := some (.int 1)) (As := [.ref 55]) (r0 := []) (cs2 := w0) rfl rfl rfl (Nat.le_of_ble_eq_true rfl) rfl rfl c46_X3_isEmpty (by decide) rfl ?_
  refine E_if (t := 39) (b := false) rfl rfl (by decide) ?_
  refine E_iconst (x := 3) rfl (by decide) ?_
  refine E_goto (t := 40) rfl rfl ?_
  exact E_iret rfl rfl
theorem c47_X6_isShelf : Ev ab_Z0 1 131 [.ref 65, .int 3] (w0.set 48 (.inl [0, 0, 0, 1, 0, 0, 0, 0])) (some (.int 1), (w0.set 48 (.inl [0, 0, 0, 1, 0, 0, 0, 0]))) := by
  refine Ef.in (md := mX6_isShelf) (L := [some (.ref 65), some (.int 3)]) rfl (Nat.le_of_ble_eq_true rfl) rfl ?_
  refine E_iload_n rfl rfl ?_
  refine E_if (t := 14) (b := false) rfl rfl (by decide) ?_
  refine E_iload_n rfl rfl ?_
  refine E_bipush (x := 8) rfl (by decide) ?_
  refine E_ic (t := 14) (b := false) rfl rfl (by decide) ?_
  refine E_iconst (x := 1) rfl (by decide) ?_
  refine E_goto (t := 15) rfl rfl ?_
  exact E_iret rfl rfl
theorem c49_X3_isOtherThanRow : Ev ab_Z0 1 33 [.ref 57] w0 (some (.int 0), w0) := by
  refine Ef.in (md := mX3_isOtherThanRow) (L := [some (.ref 57)]) rfl (Nat.le_of_ble_eq_true rfl) rfl ?_
  refine E_aload_n rfl rfl ?_
  refine E_getfield (v := .int (-1)) rfl rfl rfl (by decide) rfl ?_
  refine E_if (t := 20) (b := true) rfl rfl (by decide) ?_
  refine E_iconst (x := 0) rfl (by decide) ?_
  exact E_iret rfl rfl
theorem c50_X3_isEmpty : Ev ab_Z0 1 32 [.ref 57] w0 (some (.int 1), w0) := by
  refine Ef.in (md := mX3_isEmpty) (L := [some (.ref 57)]) rfl (Nat.le_of_ble_eq_true rfl) rfl ?_
  refine E_aload_n rfl rfl ?_
  refine E_getfield (v := .int (-1)) rfl rfl rfl (by decide) rfl ?_
  refine E_iconst (x := (-1)) rfl (by decide) ?_
  refine E_ic (t := 12) (b := false) rfl rfl (by decide) ?_
  refine E_iconst (x := 1) rfl (by decide) ?_
  refine E_goto (t := 13) rfl rfl ?_
  exact E_iret rfl rfl
theorem c48_X5_whyNoRow : Ev ab_Z0 2 119 [.ref 0, .int 4] w0 (some (.int 3), w0) := by
  refine Ef.in (md := mX5_whyNoRow) (L := [some (.ref 0), some (.int 4)]) rfl (Nat.le_of_ble_eq_true rfl) rfl ?_
  refine E_iload_n rfl rfl ?_
  refine E_callS (v := some (.int 1)) (As := [.int 4]) (r0 := []) (cs2 := w0) rfl rfl rfl (Nat.le_of_ble_eq_true rfl) rfl c18_X5_isShelf (by decide) rfl ?_
  refine E_if (t := 9) (b := true) rfl rfl (by decide) ?_
  refine E_aload_n rfl rfl ?_
  refine E_getfield (v := .ref 31) rfl rfl rfl (by decide) rfl ?_
  refine E_iload_n rfl rfl ?_
  refine E_aaload (b := 57) (j := 4) rfl rfl (by decide) (by decide) rfl ?_
  refine E_callV (v := some (.int 0)) (As := [.ref 57]) (r0 := []) (cs2 := w0) rfl rfl rfl (Nat.le_of_ble_eq_true rfl) rfl rfl c49_X3_isOtherThanRow (by decide) rfl ?_
  refine E_if (t := 23) (b := true) rfl rfl (by decide) ?_
  refine E_aload_n rfl rfl ?_
  refine E_getfield (v := .ref 31) rfl rfl rfl (by decide) rfl ?_
  refine E_iload_n rfl rfl ?_
  refine E_aaload (b := 57) (j := 4) rfl rfl (by decide) (by decide) rfl ?_
  refine E_callV (v := some (.int 1)) (As := [.ref 57]) (r0 := []) (cs2 := w0) rfl rfl rfl (Nat.le_of_ble_eq_true rfl) rfl rfl c50_X3_isEmpty (by decide) rfl ?_
  refine E_if (t := 39) (b := false) rfl rfl (by decide) ?_
  refine E_iconst (x := 3) rfl (by decide) ?_
  refine E_goto (t := 40) rfl rfl ?_
  exact E_iret rfl rfl
theorem c51_X6_isShelf : Ev ab_Z0 1 131 [.ref 65, .int 4] (w0.set 48 (.inl [0, 0, 0, 1, 0, 0, 0, 0])) (some (.int 1), (w0.set 48 (.inl [0, 0, 0, 1, 0, 0, 0, 0]))) := by
  refine Ef.in (md := mX6_isShelf) (L := [some (.ref 65), some (.int 4)]) rfl (Nat.le_of_ble_eq_true rfl) rfl ?_
  refine E_iload_n rfl rfl ?_
  refine E_if (t := 14) (b := false) rfl rfl (by decide) ?_
  refine E_iload_n rfl rfl ?_
  refine E_bipush (x := 8) rfl (by decide) ?_
  refine E_ic (t := 14) (b := false) rfl rfl (by decide) ?_
  refine E_iconst (x := 1) rfl (by decide) ?_
  refine E_goto (t := 15) rfl rfl ?_
  exact E_iret rfl rfl
theorem c53_X3_isOtherThanRow : Ev ab_Z0 1 33 [.ref 59] w0 (some (.int 0), w0) := by
  refine Ef.in (md := mX3_isOtherThanRow) (L := [some (.ref 59)]) rfl (Nat.le_of_ble_eq_true rfl) rfl ?_
  refine E_aload_n rfl rfl ?_
  refine E_getfield (v := .int (-1)) rfl rfl rfl (by decide) rfl ?_
  refine E_if (t := 20) (b := true) rfl rfl (by decide) ?_
  refine E_iconst (x := 0) rfl (by decide) ?_
  exact E_iret rfl rfl
theorem c54_X3_isEmpty : Ev ab_Z0 1 32 [.ref 59] w0 (some (.int 1), w0) := by
  refine Ef.in (md := mX3_isEmpty) (L := [some (.ref 59)]) rfl (Nat.le_of_ble_eq_true rfl) rfl ?_
  refine E_aload_n rfl rfl ?_
  refine E_getfield (v := .int (-1)) rfl rfl rfl (by decide) rfl ?_
  refine E_iconst (x := (-1)) rfl (by decide) ?_
  refine E_ic (t := 12) (b := false) rfl rfl (by decide) ?_
  refine E_iconst (x := 1) rfl (by decide) ?_
  refine E_goto (t := 13) rfl rfl ?_
  exact E_iret rfl rfl
theorem c52_X5_whyNoRow : Ev ab_Z0 2 119 [.ref 0, .int 5] w0 (some (.int 3), w0) := by
  refine Ef.in (md := mX5_whyNoRow) (L := [some (.ref 0), some (.int 5)]) rfl (Nat.le_of_ble_eq_true rfl) rfl ?_
  refine E_iload_n rfl rfl ?_
  refine E_callS (v := some (.int 1)) (As := [.int 5]) (r0 := []) (cs2 := w0) rfl rfl rfl (Nat.le_of_ble_eq_true rfl) rfl c20_X5_isShelf (by decide) rfl ?_
  refine E_if (t := 9) (b := true) rfl rfl (by decide) ?_
  refine E_aload_n rfl rfl ?_
  refine E_getfield (v := .ref 31) rfl rfl rfl (by decide) rfl ?_
  refine E_iload_n rfl rfl ?_
  refine E_aaload (b := 59) (j := 5) rfl rfl (by decide) (by decide) rfl ?_
  refine E_callV (v := some (.int 0)) (As := [.ref 59]) (r0 := []) (cs2 := w0) rfl rfl rfl (Nat.le_of_ble_eq_true rfl) rfl rfl c53_X3_isOtherThanRow (by decide) rfl ?_
  refine E_if (t := 23) (b := true) rfl rfl (by decide) ?_
  refine E_aload_n rfl rfl ?_
  refine E_getfield (v := .ref 31) rfl rfl rfl (by decide) rfl ?_
  refine E_iload_n rfl rfl ?_
  refine E_aaload (b := 59) (j := 5) rfl rfl (by decide) (by decide) rfl ?_
  refine E_callV (v := some (.int 1)) (As := [.ref 59]) (r0 := []) (cs2 := w0) rfl rfl rfl (Nat.le_of_ble_eq_true rfl) rfl rfl c54_X3_isEmpty (by decide) rfl ?_
  refine E_if (t := 39) (b := false) rfl rfl (by decide) ?_
  refine E_iconst (x := 3) rfl (by decide) ?_
  refine E_goto (t := 40) rfl rfl ?_
  exact E_iret rfl rfl
theorem c55_X6_isShelf : Ev ab_Z0 1 131 [.ref 65, .int 5] (w0.set 48 (.inl [0, 0, 0, 1, 0, 0, 0, 0])) (some (.int 1), (w0.set 48 (.inl [0, 0, 0, 1, 0, 0, 0, 0]))) := by
  refine Ef.in (md := mX6_isShelf) (L := [some (.ref 65), some (.int 5)]) rfl (Nat.le_of_ble_eq_true rfl) rfl ?_
  refine E_iload_n rfl rfl ?_
  refine E_if (t := 14) (b := false) rfl rfl (by decide) ?_
  refine E_iload_n rfl rfl ?_
  refine E_bipush (x := 8) rfl (by decide) ?_
  refine E_ic (t := 14) (b := false) rfl rfl (by decide) ?_
  refine E_iconst (x := 1) rfl (by decide) ?_
  refine E_goto (t := 15) rfl rfl ?_
  exact E_iret rfl rfl
theorem c57_X3_isOtherThanRow : Ev ab_Z0 1 33 [.ref 61] w0 (some (.int 0), w0) := by
  refine Ef.in (md := mX3_isOtherThanRow) (L := [some (.ref 61)]) rfl (Nat.le_of_ble_eq_true rfl) rfl ?_
  refine E_aload_n rfl rfl ?_
  refine E_getfield (v := .int (-1)) rfl rfl rfl (by decide) rfl ?_
  refine E_if (t := 20) (b := true) rfl rfl (by decide) ?_
  refine E_iconst (x := 0) rfl (by decide) ?_
  exact E_iret rfl rfl
theorem c58_X3_isEmpty : Ev ab_Z0 1 32 [.ref 61] w0 (some (.int 1), w0) := by
  refine Ef.in (md := mX3_isEmpty) (L := [some (.ref 61)]) rfl (Nat.le_of_ble_eq_true rfl) rfl ?_
  refine E_aload_n rfl rfl ?_
  refine E_getfield (v := .int (-1)) rfl rfl rfl (by decide) rfl ?_
  refine E_iconst (x := (-1)) rfl (by decide) ?_
  refine E_ic (t := 12) (b := false) rfl rfl (by decide) ?_
  refine E_iconst (x := 1) rfl (by decide) ?_
  refine E_goto (t := 13) rfl rfl ?_
  exact E_iret rfl rfl
theorem c56_X5_whyNoRow : Ev ab_Z0 2 119 [.ref 0, .int 6] w0 (some (.int 3), w0) := by
  refine Ef.in (md := mX5_whyNoRow) (L := [some (.ref 0), some (.int 6)]) rfl (Nat.le_of_ble_eq_true rfl) rfl ?_
  refine E_iload_n rfl rfl ?_
  refine E_callS (v := some (.int 1)) (As := [.int 6]) (r0 := []) (cs2 := w0) rfl rfl rfl (Nat.le_of_ble_eq_true rfl) rfl c22_X5_isShelf (by decide) rfl ?_
  refine E_if (t := 9) (b := true) rfl rfl (by decide) ?_
  refine E_aload_n rfl rfl ?_
  refine E_getfield (v := .ref 31) rfl rfl rfl (by decide) rfl ?_
  refine E_iload_n rfl rfl ?_
  refine E_aaload (b := 61) (j := 6) rfl rfl (by decide) (by decide) rfl ?_
  refine E_callV (v := some (.int 0)) (As := [.ref 61]) (r0 := []) (cs2 := w0) rfl rfl rfl (Nat.le_of_ble_eq_true rfl) rfl rfl c57_X3_isOtherThanRow (by decide) rfl ?_
  refine E_if (t := 23) (b := true) rfl rfl (by decide) ?_
  refine E_aload_n rfl rfl ?_
  refine E_getfield (v := .ref 31) rfl rfl rfl (by decide) rfl ?_
  refine E_iload_n rfl rfl ?_
  refine E_aaload (b := 61) (j := 6) rfl rfl (by decide) (by decide) rfl ?_
  refine E_callV (v := some (.int 1)) (As := [.ref 61]) (r0 := []) (cs2 := w0) rfl rfl rfl (Nat.le_of_ble_eq_true rfl) rfl rfl c58_X3_isEmpty (by decide) rfl ?_
  refine E_if (t := 39) (b := false) rfl rfl (by decide) ?_
  refine E_iconst (x := 3) rfl (by decide) ?_
  refine E_goto (t := 40) rfl rfl ?_
  exact E_iret rfl rfl
theorem c59_X6_isShelf : Ev ab_Z0 1 131 [.ref 65, .int 6] (w0.set 48 (.inl [0, 0, 0, 1, 0, 0, 0, 0])) (some (.int 1), (w0.set 48 (.inl [0, 0, 0, 1, 0, 0, 0, 0]))) := by
  refine Ef.in (md := mX6_isShelf) (L := [some (.ref 65), some (.int 6)]) rfl (Nat.le_of_ble_eq_true rfl) rfl ?_
  refine E_iload_n rfl rfl ?_
  refine E_if (t := 14) (b := false) rfl rfl (by decide) ?_
  refine E_iload_n rfl rfl ?_
  refine E_bipush (x := 8) rfl (by decide) ?_
  refine E_ic (t := 14) (b := false) rfl rfl (by decide) ?_
  refine E_iconst (x := 1) rfl (by decide) ?_
  refine E_goto (t := 15) rfl rfl ?_
  exact E_iret rfl rfl
theorem c61_X3_isOtherThanRow : Ev ab_Z0 1 33 [.ref 63] w0 (some (.int 0), w0) := by
  refine Ef.in (md := mX3_isOtherThanRow) (L := [some (.ref 63)]) rfl (Nat.le_of_ble_eq_true rfl) rfl ?_
  refine E_aload_n rfl rfl ?_
  refine E_getfield (v := .int (-1)) rfl rfl rfl (by decide) rfl ?_
  refine E_if (t := 20) (b := true) rfl rfl (by decide) ?_
  refine E_iconst (x := 0) rfl (by decide) ?_
  exact E_iret rfl rfl
theorem c62_X3_isEmpty : Ev ab_Z0 1 32 [.ref 63] w0 (some (.int 1), w0) := by
  refine Ef.in (md := mX3_isEmpty) (L := [some (.ref 63)]) rfl (Nat.le_of_ble_eq_true rfl) rfl ?_
  refine E_aload_n rfl rfl ?_
  refine E_getfield (v := .int (-1)) rfl rfl rfl (by decide) rfl ?_
  refine E_iconst (x := (-1)) rfl (by decide) ?_
  refine E_ic (t := 12) (b := false) rfl rfl (by decide) ?_
  refine E_iconst (x := 1) rfl (by decide) ?_
  refine E_goto (t := 13) rfl rfl ?_
  exact E_iret rfl rfl
theorem c60_X5_whyNoRow : Ev ab_Z0 2 119 [.ref 0, .int 7] w0 (some (.int 3), w0) := by
  refine Ef.in (md := mX5_whyNoRow) (L := [some (.ref 0), some (.int 7)]) rfl (Nat.le_of_ble_eq_true rfl) rfl ?_
  refine E_iload_n rfl rfl ?_
  refine E_callS (v := some (.int 1)) (As := [.int 7]) (r0 := []) (cs2 := w0) rfl rfl rfl (Nat.le_of_ble_eq_true rfl) rfl c24_X5_isShelf (by decide) rfl ?_
  refine E_if (t := 9) (b := true) rfl rfl (by decide) ?_
  refine E_aload_n rfl rfl ?_
  refine E_getfield (v := .ref 31) rfl rfl rfl (by decide) rfl ?_
  refine E_iload_n rfl rfl ?_
  refine E_aaload (b := 63) (j := 7) rfl rfl (by decide) (by decide) rfl ?_
  refine E_callV (v := some (.int 0)) (As := [.ref 63]) (r0 := []) (cs2 := w0) rfl rfl rfl (Nat.le_of_ble_eq_true rfl) rfl rfl c61_X3_isOtherThanRow (by decide) rfl ?_
  refine E_if (t := 23) (b := true) rfl rfl (by decide) ?_
  refine E_aload_n rfl rfl ?_
  refine E_getfield (v := .ref 31) rfl rfl rfl (by decide) rfl ?_
  refine E_iload_n rfl rfl ?_
  refine E_aaload (b := 63) (j := 7) rfl rfl (by decide) (by decide) rfl ?_
  refine E_callV (v := some (.int 1)) (As := [.ref 63]) (r0 := []) (cs2 := w0) rfl rfl rfl (Nat.le_of_ble_eq_true rfl) rfl rfl c62_X3_isEmpty (by decide) rfl ?_
  refine E_if (t := 39) (b := false) rfl rfl (by decide) ?_
  refine E_iconst (x := 3) rfl (by decide) ?_
  refine E_goto (t := 40) rfl rfl ?_
  exact E_iret rfl rfl
theorem c63_X6_isShelf : Ev ab_Z0 1 131 [.ref 65, .int 7] (w0.set 48 (.inl [0, 0, 0, 1, 0, 0, 0, 0])) (some (.int 1), (w0.set 48 (.inl [0, 0, 0, 1, 0, 0, 0, 0]))) := by
  refine Ef.in (md := mX6_isShelf) (L := [some (.ref 65), some (.int 7)]) rfl (Nat.le_of_ble_eq_true rfl) rfl ?_
  refine E_iload_n rfl rfl ?_
  refine E_if (t := 14) (b := false) rfl rfl (by decide) ?_
  refine E_iload_n rfl rfl ?_
  refine E_bipush (x := 8) rfl (by decide) ?_
  refine E_ic (t := 14) (b := false) rfl rfl (by decide) ?_
  refine E_iconst (x := 1) rfl (by decide) ?_
  refine E_goto (t := 15) rfl rfl ?_
  exact E_iret rfl rfl
theorem f_set_1 (a1 a2 : Int32) (v : Int64) (ha1h : a1.toInt ≤ -1) : p1_P 3 77 2 136 [.ref 0, .int a1, .int a2, .long v] [.ref 65, .int a1, .int a2, .long v] :=
  ⟨(-1), (w0.set 48 (.inl [0, 1, 0, 0, 0, 0, 0, 0])), ((w0.set 48 (.inl [0, 1, 0, 0, 0, 0, 0, 0])).set 66 (.inl [0, 1, 0, 0, 0, 0, 0, 0])), by
    refine Ef.in (md := mX5_set) (L := [some (.ref 0), some (.int a1), some (.int a2), some (.long v), none, none]) rfl (Nat.le_of_ble_eq_true rfl) rfl ?_
    refine E_aload_n rfl rfl ?_
    refine E_iload_n rfl rfl ?_
    have e3 : Ev ab_Z0 2 119 [.ref 0, .int a1] w0 (some (.int 1), w0) := by
      refine Ef.in (md := mX5_whyNoRow) (L := [some (.ref 0), some (.int a1)]) rfl (Nat.le_of_ble_eq_true rfl) rfl ?_
      refine E_iload_n rfl rfl ?_
      have e2 : Ev ab_Z0 1 117 [.int a1] w0 (some (.int 0), w0) := by
        refine Ef.in (md := mX5_isShelf) (L := [some (.int a1)]) rfl (Nat.le_of_ble_eq_true rfl) rfl ?_
        refine E_iload_n rfl rfl ?_
        refine E_if (t := 14) (b := true) rfl rfl ((cn_lt (rfl : (a1).toInt = (a1).toInt) (by decide : (0 : Int32).toInt = 0)).trans (decide_eq_true (by omega))) ?_
        refine E_iconst (x := 0) rfl (by decide) ?_
        exact E_iret rfl rfl
      refine E_callS (v := some (.int 0)) (As := [.int a1]) (r0 := []) (cs2 := w0) rfl rfl rfl (Nat.le_of_ble_eq_true rfl) rfl e2 (by decide) rfl ?_
      refine E_if (t := 9) (b := false) rfl rfl (by decide) ?_
      refine E_iconst (x := 1) rfl (by decide) ?_
      exact E_iret rfl rfl
    refine E_callV (v := some (.int 1)) (As := [.ref 0, .int a1]) (r0 := []) (cs2 := w0) rfl rfl rfl (Nat.le_of_ble_eq_true rfl) rfl rfl e3 (by decide) rfl ?_
    refine E_istore (L2 := [some (.ref 0), some (.int a1), some (.int a2), some (.long v), none, some (.int 1)]) rfl rfl ?_
    refine E_iload rfl rfl ?_
    refine E_if (t := 19) (b := false) rfl rfl (by decide) ?_
    refine E_aload_n rfl rfl ?_
    refine E_iload rfl rfl ?_
    refine E_callV (v := some (.int (-1))) (As := [.ref 0, .int 1]) (r0 := []) (cs2 := (w0.set 48 (.inl [0, 1, 0, 0, 0, 0, 0, 0]))) rfl rfl rfl (Nat.le_of_ble_eq_true rfl) rfl rfl c1_X5_refuse (by decide) (by simp only [List.length_set]) ?_
    exact E_iret rfl rfl, by
    refine Ef.in (md := mX6_set) (L := [some (.ref 65), some (.int a1), some (.int a2), some (.long v), none]) rfl (Nat.le_of_ble_eq_true rfl) rfl ?_
    refine E_aload_n rfl rfl ?_
    refine E_iload_n rfl rfl ?_
    have e3 : Ev ab_Z0 1 131 [.ref 65, .int a1] (w0.set 48 (.inl [0, 1, 0, 0, 0, 0, 0, 0])) (some (.int 0), (w0.set 48 (.inl [0, 1, 0, 0, 0, 0, 0, 0]))) := by
      refine Ef.in (md := mX6_isShelf) (L := [some (.ref 65), some (.int a1)]) rfl (Nat.le_of_ble_eq_true rfl) rfl ?_
      refine E_iload_n rfl rfl ?_
      refine E_if (t := 14) (b := true) rfl rfl ((cn_lt (rfl : (a1).toInt = (a1).toInt) (by decide : (0 : Int32).toInt = 0)).trans (decide_eq_true (by omega))) ?_
      refine E_iconst (x := 0) rfl (by decide) ?_
      exact E_iret rfl rfl
    refine E_callV (v := some (.int 0)) (As := [.ref 65, .int a1]) (r0 := []) (cs2 := (w0.set 48 (.inl [0, 1, 0, 0, 0, 0, 0, 0]))) rfl rfl rfl (Nat.le_of_ble_eq_true rfl) rfl rfl e3 (by decide) rfl ?_
    refine E_if (t := 14) (b := false) rfl rfl (by decide) ?_
    refine E_aload_n rfl rfl ?_
    refine E_iconst (x := (-1)) rfl (by decide) ?_
    refine E_callV (v := some (.int (-1))) (As := [.ref 65, .int (-1)]) (r0 := []) (cs2 := ((w0.set 48 (.inl [0, 1, 0, 0, 0, 0, 0, 0])).set 66 (.inl [0, 1, 0, 0, 0, 0, 0, 0]))) rfl rfl rfl (Nat.le_of_ble_eq_true rfl) rfl rfl c3_X6_no (by decide) (by simp only [List.length_set]) ?_
    exact E_iret rfl rfl, (by simp only [List.length_set]; rfl), (by simp only [List.length_set]; rfl), ((ab_szs rfl).trans ((ab_szs rfl).trans rfl)), fun _ => rfl⟩
theorem f_set_2 (a2 : Int32) (v : Int64) : p1_P 3 77 2 136 [.ref 0, .int 0, .int a2, .long v] [.ref 65, .int 0, .int a2, .long v] :=
  ⟨(-3), (w0.set 48 (.inl [0, 0, 0, 1, 0, 0, 0, 0])), ((w0.set 48 (.inl [0, 0, 0, 1, 0, 0, 0, 0])).set 66 (.inl [0, 0, 0, 1, 0, 0, 0, 0])), by
    refine Ef.in (md := mX5_set) (L := [some (.ref 0), some (.int 0), some (.int a2), some (.long v), none, none]) rfl (Nat.le_of_ble_eq_true rfl) rfl ?_
    refine E_aload_n rfl rfl ?_
    refine E_iload_n rfl rfl ?_
    refine E_callV (v := some (.int 3)) (As := [.ref 0, .int 0]) (r0 := []) (cs2 := w0) rfl rfl rfl (Nat.le_of_ble_eq_true rfl) rfl rfl c29_X5_whyNoRow (by decide) rfl ?_
    refine E_istore (L2 := [some (.ref 0), some (.int 0), some (.int a2), some (.long v), none, some (.int 3)]) rfl rfl ?_
    refine E_iload rfl rfl ?_
    refine E_if (t := 19) (b := false) rfl rfl (by decide) ?_
    refine E_aload_n rfl rfl ?_
    refine E_iload rfl rfl ?_
    refine E_callV (v := some (.int (-3))) (As := [.ref 0, .int 3]) (r0 := []) (cs2 := (w0.set 48 (.inl [0, 0, 0, 1, 0, 0, 0, 0]))) rfl rfl rfl (Nat.le_of_ble_eq_true rfl) rfl rfl c32_X5_refuse (by decide) (by simp only [List.length_set]) ?_
    exact E_iret rfl rfl, by
    refine Ef.in (md := mX6_set) (L := [some (.ref 65), some (.int 0), some (.int a2), some (.long v), none]) rfl (Nat.le_of_ble_eq_true rfl) rfl ?_
    refine E_aload_n rfl rfl ?_
    refine E_iload_n rfl rfl ?_
    refine E_callV (v := some (.int 1)) (As := [.ref 65, .int 0]) (r0 := []) (cs2 := (w0.set 48 (.inl [0, 0, 0, 1, 0, 0, 0, 0]))) rfl rfl rfl (Nat.le_of_ble_eq_true rfl) rfl rfl c34_X6_isShelf (by decide) rfl ?_
    refine E_if (t := 14) (b := true) rfl rfl (by decide) ?_
    refine E_aload_n rfl rfl ?_
    refine E_getfield (v := .ref 76) rfl rfl rfl (by decide) rfl ?_
    refine E_iload_n rfl rfl ?_
    refine E_iaload (x := 0) (j := 0) rfl rfl (by decide) (by decide) rfl ?_
    refine E_iconst (x := 2) rfl (by decide) ?_
    refine E_ic (t := 31) (b := true) rfl rfl (by decide) ?_
    refine E_aload_n rfl rfl ?_
    refine E_getfield (v := .ref 76) rfl rfl rfl (by decide) rfl ?_
    refine E_iload_n rfl rfl ?_
    refine E_iaload (x := 0) (j := 0) rfl rfl (by decide) (by decide) rfl ?_
    refine E_if (t := 47) (b := false) rfl rfl (by decide) ?_
    refine E_aload_n rfl rfl ?_
    refine E_bipush (x := (-3)) rfl (by decide) ?_
    refine E_callV (v := some (.int (-3))) (As := [.ref 65, .int (-3)]) (r0 := []) (cs2 := ((w0.set 48 (.inl [0, 0, 0, 1, 0, 0, 0, 0])).set 66 (.inl [0, 0, 0, 1, 0, 0, 0, 0]))) rfl rfl rfl (Nat.le_of_ble_eq_true rfl) rfl rfl c35_X6_no (by decide) (by simp only [List.length_set]) ?_
    exact E_iret rfl rfl, (by simp only [List.length_set]; rfl), (by simp only [List.length_set]; rfl), ((ab_szs rfl).trans ((ab_szs rfl).trans rfl)), fun _ => rfl⟩
theorem f_set_3 (a2 : Int32) (v : Int64) : p1_P 3 77 2 136 [.ref 0, .int 1, .int a2, .long v] [.ref 65, .int 1, .int a2, .long v] :=
  ⟨(-3), (w0.set 48 (.inl [0, 0, 0, 1, 0, 0, 0, 0])), ((w0.set 48 (.inl [0, 0, 0, 1, 0, 0, 0, 0])).set 66 (.inl [0, 0, 0, 1, 0, 0, 0, 0])), by
    refine Ef.in (md := mX5_set) (L := [some (.ref 0), some (.int 1), some (.int a2), some (.long v), none, none]) rfl (Nat.le_of_ble_eq_true rfl) rfl ?_
    refine E_aload_n rfl rfl ?_
    refine E_iload_n rfl rfl ?_
    refine E_callV (v := some (.int 3)) (As := [.ref 0, .int 1]) (r0 := []) (cs2 := w0) rfl rfl rfl (Nat.le_of_ble_eq_true rfl) rfl rfl c36_X5_whyNoRow (by decide) rfl ?_
    refine E_istore (L2 := [some (.ref 0), some (.int 1), some (.int a2), some (.long v), none, some (.int 3)]) rfl rfl ?_
    refine E_iload rfl rfl ?_
    refine E_if (t := 19) (b := false) rfl rfl (by decide) ?_
    refine E_aload_n rfl rfl ?_
    refine E_iload rfl rfl ?_
    refine E_callV (v := some (.int (-3))) (As := [.ref 0, .int 3]) (r0 := []) (cs2 := (w0.set 48 (.inl [0, 0, 0, 1, 0, 0, 0, 0]))) rfl rfl rfl (Nat.le_of_ble_eq_true rfl) rfl rfl c32_X5_refuse (by decide) (by simp only [List.length_set]) ?_
    exact E_iret rfl rfl, by
    refine Ef.in (md := mX6_set) (L := [some (.ref 65), some (.int 1), some (.int a2), some (.long v), none]) rfl (Nat.le_of_ble_eq_true rfl) rfl ?_
    refine E_aload_n rfl rfl ?_
    refine E_iload_n rfl rfl ?_
    refine E_callV (v := some (.int 1)) (As := [.ref 65, .int 1]) (r0 := []) (cs2 := (w0.set 48 (.inl [0, 0, 0, 1, 0, 0, 0, 0]))) rfl rfl rfl (Nat.le_of_ble_eq_true rfl) rfl rfl c39_X6_isShelf (by decide) rfl ?_
    refine E_if (t := 14) (b := true) rfl rfl (by decide) ?_
    refine E_aload_n rfl rfl ?_
    refine E_getfield (v := .ref 76) rfl rfl rfl (by decide) rfl ?_
    refine E_iload_n rfl rfl ?_
    refine E_iaload (x := 0) (j := 1) rfl rfl (by decide) (by decide) rfl ?_
    refine E_iconst (x := 2) rfl (by decide) ?_
    refine E_ic (t := 31) (b := true) rfl rfl (by decide) ?_
    refine E_aload_n rfl rfl ?_
    refine E_getfield (v := .ref 76) rfl rfl rfl (by decide) rfl ?_
    refine E_iload_n rfl rfl ?_
    refine E_iaload (x := 0) (j := 1) rfl rfl (by decide) (by decide) rfl ?_
    refine E_if (t := 47) (b := false) rfl rfl (by decide) ?_
    refine E_aload_n rfl rfl ?_
    refine E_bipush (x := (-3)) rfl (by decide) ?_
    refine E_callV (v := some (.int (-3))) (As := [.ref 65, .int (-3)]) (r0 := []) (cs2 := ((w0.set 48 (.inl [0, 0, 0, 1, 0, 0, 0, 0])).set 66 (.inl [0, 0, 0, 1, 0, 0, 0, 0]))) rfl rfl rfl (Nat.le_of_ble_eq_true rfl) rfl rfl c35_X6_no (by decide) (by simp only [List.length_set]) ?_
    exact E_iret rfl rfl, (by simp only [List.length_set]; rfl), (by simp only [List.length_set]; rfl), ((ab_szs rfl).trans ((ab_szs rfl).trans rfl)), fun _ => rfl⟩
theorem f_set_4 (a2 : Int32) (v : Int64) : p1_P 3 77 2 136 [.ref 0, .int 2, .int a2, .long v] [.ref 65, .int 2, .int a2, .long v] :=
  ⟨(-3), (w0.set 48 (.inl [0, 0, 0, 1, 0, 0, 0, 0])), ((w0.set 48 (.inl [0, 0, 0, 1, 0, 0, 0, 0])).set 66 (.inl [0, 0, 0, 1, 0, 0, 0, 0])), by
    refine Ef.in (md := mX5_set) (L := [some (.ref 0), some (.int 2), some (.int a2), some (.long v), none, none]) rfl (Nat.le_of_ble_eq_true rfl) rfl ?_
    refine E_aload_n rfl rfl ?_
    refine E_iload_n rfl rfl ?_
    refine E_callV (v := some (.int 3)) (As := [.ref 0, .int 2]) (r0 := []) (cs2 := w0) rfl rfl rfl (Nat.le_of_ble_eq_true rfl) rfl rfl c40_X5_whyNoRow (by decide) rfl ?_
    refine E_istore (L2 := [some (.ref 0), some (.int 2), some (.int a2), some (.long v), none, some (.int 3)]) rfl rfl ?_
    refine E_iload rfl rfl ?_
    refine E_if (t := 19) (b := false) rfl rfl (by decide) ?_
    refine E_aload_n rfl rfl ?_
    refine E_iload rfl rfl ?_
    refine E_callV (v := some (.int (-3))) (As := [.ref 0, .int 3]) (r0 := []) (cs2 := (w0.set 48 (.inl [0, 0, 0, 1, 0, 0, 0, 0]))) rfl rfl rfl (Nat.le_of_ble_eq_true rfl) rfl rfl c32_X5_refuse (by decide) (by simp only [List.length_set]) ?_
    exact E_iret rfl rfl, by
    refine Ef.in (md := mX6_set) (L := [some (.ref 65), some (.int 2), some (.int a2), some (.long v), none]) rfl (Nat.le_of_ble_eq_true rfl) rfl ?_
    refine E_aload_n rfl rfl ?_
    refine E_iload_n rfl rfl ?_
    refine E_callV (v := some (.int 1)) (As := [.ref 65, .int 2]) (r0 := []) (cs2 := (w0.set 48 (.inl [0, 0, 0, 1, 0, 0, 0, 0]))) rfl rfl rfl (Nat.le_of_ble_eq_true rfl) rfl rfl c43_X6_isShelf (by decide) rfl ?_
    refine E_if (t := 14) (b := true) rfl rfl (by decide) ?_
    refine E_aload_n rfl rfl ?_
    refine E_getfield (v := .ref 76) rfl rfl rfl (by decide) rfl ?_
    refine E_iload_n rfl rfl ?_
    refine E_iaload (x := 0) (j := 2) rfl rfl (by decide) (by decide) rfl ?_
    refine E_iconst (x := 2) rfl (by decide) ?_
    refine E_ic (t := 31) (b := true) rfl rfl (by decide) ?_
    refine E_aload_n rfl rfl ?_
    refine E_getfield (v := .ref 76) rfl rfl rfl (by decide) rfl ?_
    refine E_iload_n rfl rfl ?_
    refine E_iaload (x := 0) (j := 2) rfl rfl (by decide) (by decide) rfl ?_
    refine E_if (t := 47) (b := false) rfl rfl (by decide) ?_
    refine E_aload_n rfl rfl ?_
    refine E_bipush (x := (-3)) rfl (by decide) ?_
    refine E_callV (v := some (.int (-3))) (As := [.ref 65, .int (-3)]) (r0 := []) (cs2 := ((w0.set 48 (.inl [0, 0, 0, 1, 0, 0, 0, 0])).set 66 (.inl [0, 0, 0, 1, 0, 0, 0, 0]))) rfl rfl rfl (Nat.le_of_ble_eq_true rfl) rfl rfl c35_X6_no (by decide) (by simp only [List.length_set]) ?_
    exact E_iret rfl rfl, (by simp only [List.length_set]; rfl), (by simp only [List.length_set]; rfl), ((ab_szs rfl).trans ((ab_szs rfl).trans rfl)), fun _ => rfl⟩
theorem f_set_5 (a2 : Int32) (v : Int64) : p1_P 3 77 2 136 [.ref 0, .int 3, .int a2, .long v] [.ref 65, .int 3, .int a2, .long v] :=
  ⟨(-3), (w0.set 48 (.inl [0, 0, 0, 1, 0, 0, 0, 0])), ((w0.set 48 (.inl [0, 0, 0, 1, 0, 0, 0, 0])).set 66 (.inl [0, 0, 0, 1, 0, 0, 0, 0])), by
    refine Ef.in (md := mX5_set) (L := [some (.ref 0), some (.int 3), some (.int a2), some (.long v), none, none]) rfl (Nat.le_of_ble_eq_true rfl) rfl ?_
    refine E_aload_n rfl rfl ?_
    refine E_iload_n rfl rfl ?_
    refine E_callV (v := some (.int 3)) (As := [.ref 0, .int 3]) (r0 := []) (cs2 := w0) rfl rfl rfl (Nat.le_of_ble_eq_true rfl) rfl rfl c44_X5_whyNoRow (by decide) rfl ?_
    refine E_istore (L2 := [some (.ref 0), some (.int 3), some (.int a2), some (.long v), none, some (.int 3)]) rfl rfl ?_
    refine E_iload rfl rfl ?_
    refine E_if (t := 19) (b := false) rfl rfl (by decide) ?_
    refine E_aload_n rfl rfl ?_
    refine E_iload rfl rfl ?_
    refine E_callV (v := some (.int (-3))) (As := [.ref 0, .int 3]) (r0 := []) (cs2 := (w0.set 48 (.inl [0, 0, 0, 1, 0, 0, 0, 0]))) rfl rfl rfl (Nat.le_of_ble_eq_true rfl) rfl rfl c32_X5_refuse (by decide) (by simp only [List.length_set]) ?_
    exact E_iret rfl rfl, by
    refine Ef.in (md := mX6_set) (L := [some (.ref 65), some (.int 3), some (.int a2), some (.long v), none]) rfl (Nat.le_of_ble_eq_true rfl) rfl ?_
    refine E_aload_n rfl rfl ?_
    refine E_iload_n rfl rfl ?_
    refine E_callV (v := some (.int 1)) (As := [.ref 65, .int 3]) (r0 := []) (cs2 := (w0.set 48 (.inl [0, 0, 0, 1, 0, 0, 0, 0]))) rfl rfl rfl (Nat.le_of_ble_eq_true rfl) rfl rfl c47_X6_isShelf (by decide) rfl ?_
    refine E_if (t := 14) (b := true) rfl rfl (by decide) ?_
    refine E_aload_n rfl rfl ?_
    refine E_getfield (v := .ref 76) rfl rfl rfl (by decide) rfl ?_
    refine E_iload_n rfl rfl ?_
    refine E_iaload (x := 0) (j := 3) rfl rfl (by decide) (by decide) rfl ?_
    refine E_iconst (x := 2) rfl (by decide) ?_
    refine E_ic (t := 31) (b := true) rfl rfl (by decide) ?_
    refine E_aload_n rfl rfl ?_
    refine E_getfield (v := .ref 76) rfl rfl rfl (by decide) rfl ?_
    refine E_iload_n rfl rfl ?_
    refine E_iaload (x := 0) (j := 3) rfl rfl (by decide) (by decide) rfl ?_
    refine E_if (t := 47) (b := false) rfl rfl (by decide) ?_
    refine E_aload_n rfl rfl ?_
    refine E_bipush (x := (-3)) rfl (by decide) ?_
    refine E_callV (v := some (.int (-3))) (As := [.ref 65, .int (-3)]) (r0 := []) (cs2 := ((w0.set 48 (.inl [0, 0, 0, 1, 0, 0, 0, 0])).set 66 (.inl [0, 0, 0, 1, 0, 0, 0, 0]))) rfl rfl rfl (Nat.le_of_ble_eq_true rfl) rfl rfl c35_X6_no (by decide) (by simp only [List.length_set]) ?_
    exact E_iret rfl rfl, (by simp only [List.length_set]; rfl), (by simp only [List.length_set]; rfl), ((ab_szs rfl).trans ((ab_szs rfl).trans rfl)), fun _ => rfl⟩
theorem f_set_6 (a2 : Int32) (v : Int64) : p1_P 3 77 2 136 [.ref 0, .int 4, .int a2, .long v] [.ref 65, .int 4, .int a2, .long v] :=
  ⟨(-3), (w0.set 48 (.inl [0, 0, 0, 1, 0, 0, 0, 0])), ((w0.set 48 (.inl [0, 0, 0, 1, 0, 0, 0, 0])).set 66 (.inl [0, 0, 0, 1, 0, 0, 0, 0])), by
    refine Ef.in (md := mX5_set) (L := [some (.ref 0), some (.int 4), some (.int a2), some (.long v), none, none]) rfl (Nat.le_of_ble_eq_true rfl) rfl ?_
    refine E_aload_n rfl rfl ?_
    refine E_iload_n rfl rfl ?_
    refine E_callV (v := some (.int 3)) (As := [.ref 0, .int 4]) (r0 := []) (cs2 := w0) rfl rfl rfl (Nat.le_of_ble_eq_true rfl) rfl rfl c48_X5_whyNoRow (by decide) rfl ?_
    refine E_istore (L2 := [some (.ref 0), some (.int 4), some (.int a2), some (.long v), none, some (.int 3)]) rfl rfl ?_
    refine E_iload rfl rfl ?_
    refine E_if (t := 19) (b := false) rfl rfl (by decide) ?_
    refine E_aload_n rfl rfl ?_
    refine E_iload rfl rfl ?_
    refine E_callV (v := some (.int (-3))) (As := [.ref 0, .int 3]) (r0 := []) (cs2 := (w0.set 48 (.inl [0, 0, 0, 1, 0, 0, 0, 0]))) rfl rfl rfl (Nat.le_of_ble_eq_true rfl) rfl rfl c32_X5_refuse (by decide) (by simp only [List.length_set]) ?_
    exact E_iret rfl rfl, by
    refine Ef.in (md := mX6_set) (L := [some (.ref 65), some (.int 4), some (.int a2), some (.long v), none]) rfl (Nat.le_of_ble_eq_true rfl) rfl ?_
    refine E_aload_n rfl rfl ?_
    refine E_iload_n rfl rfl ?_
    refine E_callV (v := some (.int 1)) (As := [.ref 65, .int 4]) (r0 := []) (cs2 := (w0.set 48 (.inl [0, 0, 0, 1, 0, 0, 0, 0]))) rfl rfl rfl (Nat.le_of_ble_eq_true rfl) rfl rfl c51_X6_isShelf (by decide) rfl ?_
    refine E_if (t := 14) (b := true) rfl rfl (by decide) ?_
    refine E_aload_n rfl rfl ?_
    refine E_getfield (v := .ref 76) rfl rfl rfl (by decide) rfl ?_
    refine E_iload_n rfl rfl ?_
    refine E_iaload (x := 0) (j := 4) rfl rfl (by decide) (by decide) rfl ?_
    refine E_iconst (x := 2) rfl (by decide) ?_
    refine E_ic (t := 31) (b := true) rfl rfl (by decide) ?_
    refine E_aload_n rfl rfl ?_
    refine E_getfield (v := .ref 76) rfl rfl rfl (by decide) rfl ?_
    refine E_iload_n rfl rfl ?_
    refine E_iaload (x := 0) (j := 4) rfl rfl (by decide) (by decide) rfl ?_
    refine E_if (t := 47) (b := false) rfl rfl (by decide) ?_
    refine E_aload_n rfl rfl ?_
    refine E_bipush (x := (-3)) rfl (by decide) ?_
    refine E_callV (v := some (.int (-3))) (As := [.ref 65, .int (-3)]) (r0 := []) (cs2 := ((w0.set 48 (.inl [0, 0, 0, 1, 0, 0, 0, 0])).set 66 (.inl [0, 0, 0, 1, 0, 0, 0, 0]))) rfl rfl rfl (Nat.le_of_ble_eq_true rfl) rfl rfl c35_X6_no (by decide) (by simp only [List.length_set]) ?_
    exact E_iret rfl rfl, (by simp only [List.length_set]; rfl), (by simp only [List.length_set]; rfl), ((ab_szs rfl).trans ((ab_szs rfl).trans rfl)), fun _ => rfl⟩
theorem f_set_7 (a2 : Int32) (v : Int64) : p1_P 3 77 2 136 [.ref 0, .int 5, .int a2, .long v] [.ref 65, .int 5, .int a2, .long v] :=
  ⟨(-3), (w0.set 48 (.inl [0, 0, 0, 1, 0, 0, 0, 0])), ((w0.set 48 (.inl [0, 0, 0, 1, 0, 0, 0, 0])).set 66 (.inl [0, 0, 0, 1, 0, 0, 0, 0])), by
    refine Ef.in (md := mX5_set) (L := [some (.ref 0), some (.int 5), some (.int a2), some (.long v), none, none]) rfl (Nat.le_of_ble_eq_true rfl) rfl ?_
    refine E_aload_n rfl rfl ?_
    refine E_iload_n rfl rfl ?_
    refine E_callV (v := some (.int 3)) (As := [.ref 0, .int 5]) (r0 := []) (cs2 := w0) rfl rfl rfl (Nat.le_of_ble_eq_true rfl) rfl rfl c52_X5_whyNoRow (by decide) rfl ?_
    refine E_istore (L2 := [some (.ref 0), some (.int 5), some (.int a2), some (.long v), none, some (.int 3)]) rfl rfl ?_
    refine E_iload rfl rfl ?_
    refine E_if (t := 19) (b := false) rfl rfl (by decide) ?_
    refine E_aload_n rfl rfl ?_
    refine E_iload rfl rfl ?_
    refine E_callV (v := some (.int (-3))) (As := [.ref 0, .int 3]) (r0 := []) (cs2 := (w0.set 48 (.inl [0, 0, 0, 1, 0, 0, 0, 0]))) rfl rfl rfl (Nat.le_of_ble_eq_true rfl) rfl rfl c32_X5_refuse (by decide) (by simp only [List.length_set]) ?_
    exact E_iret rfl rfl, by
    refine Ef.in (md := mX6_set) (L := [some (.ref 65), some (.int 5), some (.int a2), some (.long v), none]) rfl (Nat.le_of_ble_eq_true rfl) rfl ?_
    refine E_aload_n rfl rfl ?_
    refine E_iload_n rfl rfl ?_
    refine E_callV (v := some (.int 1)) (As := [.ref 65, .int 5]) (r0 := []) (cs2 := (w0.set 48 (.inl [0, 0, 0, 1, 0, 0, 0, 0]))) rfl rfl rfl (Nat.le_of_ble_eq_true rfl) rfl rfl c55_X6_isShelf (by decide) rfl ?_
    refine E_if (t := 14) (b := true) rfl rfl (by decide) ?_
    refine E_aload_n rfl rfl ?_
    refine E_getfield (v := .ref 76) rfl rfl rfl (by decide) rfl ?_
    refine E_iload_n rfl rfl ?_
    refine E_iaload (x := 0) (j := 5) rfl rfl (by decide) (by decide) rfl ?_
    refine E_iconst (x := 2) rfl (by decide) ?_
    refine E_ic (t := 31) (b := true) rfl rfl (by decide) ?_
    refine E_aload_n rfl rfl ?_
    refine E_getfield (v := .ref 76) rfl rfl rfl (by decide) rfl ?_
    refine E_iload_n rfl rfl ?_
    refine E_iaload (x := 0) (j := 5) rfl rfl (by decide) (by decide) rfl ?_
    refine E_if (t := 47) (b := false) rfl rfl (by decide) ?_
    refine E_aload_n rfl rfl ?_
    refine E_bipush (x := (-3)) rfl (by decide) ?_
    refine E_callV (v := some (.int (-3))) (As := [.ref 65, .int (-3)]) (r0 := []) (cs2 := ((w0.set 48 (.inl [0, 0, 0, 1, 0, 0, 0, 0])).set 66 (.inl [0, 0, 0, 1, 0, 0, 0, 0]))) rfl rfl rfl (Nat.le_of_ble_eq_true rfl) rfl rfl c35_X6_no (by decide) (by simp only [List.length_set]) ?_
    exact E_iret rfl rfl, (by simp only [List.length_set]; rfl), (by simp only [List.length_set]; rfl), ((ab_szs rfl).trans ((ab_szs rfl).trans rfl)), fun _ => rfl⟩
theorem f_set_8 (a2 : Int32) (v : Int64) : p1_P 3 77 2 136 [.ref 0, .int 6, .int a2, .long v] [.ref 65, .int 6, .int a2, .long v] :=
  ⟨(-3), (w0.set 48 (.inl [0, 0, 0, 1, 0, 0, 0, 0])), ((w0.set 48 (.inl [0, 0, 0, 1, 0, 0, 0, 0])).set 66 (.inl [0, 0, 0, 1, 0, 0, 0, 0])), by
    refine Ef.in (md := mX5_set) (L := [some (.ref 0), some (.int 6), some (.int a2), some (.long v), none, none]) rfl (Nat.le_of_ble_eq_true rfl) rfl ?_
    refine E_aload_n rfl rfl ?_
    refine E_iload_n rfl rfl ?_
    refine E_callV (v := some (.int 3)) (As := [.ref 0, .int 6]) (r0 := []) (cs2 := w0) rfl rfl rfl (Nat.le_of_ble_eq_true rfl) rfl rfl c56_X5_whyNoRow (by decide) rfl ?_
    refine E_istore (L2 := [some (.ref 0), some (.int 6), some (.int a2), some (.long v), none, some (.int 3)]) rfl rfl ?_
    refine E_iload rfl rfl ?_
    refine E_if (t := 19) (b := false) rfl rfl (by decide) ?_
    refine E_aload_n rfl rfl ?_
    refine E_iload rfl rfl ?_
    refine E_callV (v := some (.int (-3))) (As := [.ref 0, .int 3]) (r0 := []) (cs2 := (w0.set 48 (.inl [0, 0, 0, 1, 0, 0, 0, 0]))) rfl rfl rfl (Nat.le_of_ble_eq_true rfl) rfl rfl c32_X5_refuse (by decide) (by simp only [List.length_set]) ?_
    exact E_iret rfl rfl, by
    refine Ef.in (md := mX6_set) (L := [some (.ref 65), some (.int 6), some (.int a2), some (.long v), none]) rfl (Nat.le_of_ble_eq_true rfl) rfl ?_
    refine E_aload_n rfl rfl ?_
    refine E_iload_n rfl rfl ?_
    refine E_callV (v := some (.int 1)) (As := [.ref 65, .int 6]) (r0 := []) (cs2 := (w0.set 48 (.inl [0, 0, 0, 1, 0, 0, 0, 0]))) rfl rfl rfl (Nat.le_of_ble_eq_true rfl) rfl rfl c59_X6_isShelf (by decide) rfl ?_
    refine E_if (t := 14) (b := true) rfl rfl (by decide) ?_
    refine E_aload_n rfl rfl ?_
    refine E_getfield (v := .ref 76) rfl rfl rfl (by decide) rfl ?_
    refine E_iload_n rfl rfl ?_
    refine E_iaload (x := 0) (j := 6) rfl rfl (by decide) (by decide) rfl ?_
    refine E_iconst (x := 2) rfl (by decide) ?_
    refine E_ic (t := 31) (b := true) rfl rfl (by decide) ?_
    refine E_aload_n rfl rfl ?_
    refine E_getfield (v := .ref 76) rfl rfl rfl (by decide) rfl ?_
    refine E_iload_n rfl rfl ?_
    refine E_iaload (x := 0) (j := 6) rfl rfl (by decide) (by decide) rfl ?_
    refine E_if (t := 47) (b := false) rfl rfl (by decide) ?_
    refine E_aload_n rfl rfl ?_
    refine E_bipush (x := (-3)) rfl (by decide) ?_
    refine E_callV (v := some (.int (-3))) (As := [.ref 65, .int (-3)]) (r0 := []) (cs2 := ((w0.set 48 (.inl [0, 0, 0, 1, 0, 0, 0, 0])).set 66 (.inl [0, 0, 0, 1, 0, 0, 0, 0]))) rfl rfl rfl (Nat.le_of_ble_eq_true rfl) rfl rfl c35_X6_no (by decide) (by simp only [List.length_set]) ?_
    exact E_iret rfl rfl, (by simp only [List.length_set]; rfl), (by simp only [List.length_set]; rfl), ((ab_szs rfl).trans ((ab_szs rfl).trans rfl)), fun _ => rfl⟩
theorem f_set_9 (a2 : Int32) (v : Int64) : p1_P 3 77 2 136 [.ref 0, .int 7, .int a2, .long v] [.ref 65, .int 7, .int a2, .long v] :=
  ⟨(-3), (w0.set 48 (.inl [0, 0, 0, 1, 0, 0, 0, 0])), ((w0.set 48 (.inl [0, 0, 0, 1, 0, 0, 0, 0])).set 66 (.inl [0, 0, 0, 1, 0, 0, 0, 0])), by
    refine Ef.in (md := mX5_set) (L := [some (.ref 0), some (.int 7), some (.int a2), some (.long v), none, none]) rfl (Nat.le_of_ble_eq_true rfl) rfl ?_
    refine E_aload_n rfl rfl ?_
    refine E_iload_n rfl rfl ?_
    refine E_callV (v := some (.int 3)) (As := [.ref 0, .int 7]) (r0 := []) (cs2 := w0) rfl rfl rfl (Nat.le_of_ble_eq_true rfl) rfl rfl c60_X5_whyNoRow (by decide) rfl ?_
    refine E_istore (L2 := [some (.ref 0), some (.int 7), some (.int a2), some (.long v), none, some (.int 3)]) rfl rfl ?_
    refine E_iload rfl rfl ?_
    refine E_if (t := 19) (b := false) rfl rfl (by decide) ?_
    refine E_aload_n rfl rfl ?_
    refine E_iload rfl rfl ?_
    refine E_callV (v := some (.int (-3))) (As := [.ref 0, .int 3]) (r0 := []) (cs2 := (w0.set 48 (.inl [0, 0, 0, 1, 0, 0, 0, 0]))) rfl rfl rfl (Nat.le_of_ble_eq_true rfl) rfl rfl c32_X5_refuse (by decide) (by simp only [List.length_set]) ?_
    exact E_iret rfl rfl, by
    refine Ef.in (md := mX6_set) (L := [some (.ref 65), some (.int 7), some (.int a2), some (.long v), none]) rfl (Nat.le_of_ble_eq_true rfl) rfl ?_
    refine E_aload_n rfl rfl ?_
    refine E_iload_n rfl rfl ?_
    refine E_callV (v := some (.int 1)) (As := [.ref 65, .int 7]) (r0 := []) (cs2 := (w0.set 48 (.inl [0, 0, 0, 1, 0, 0, 0, 0]))) rfl rfl rfl (Nat.le_of_ble_eq_true rfl) rfl rfl c63_X6_isShelf (by decide) rfl ?_
    refine E_if (t := 14) (b := true) rfl rfl (by decide) ?_
    refine E_aload_n rfl rfl ?_
    refine E_getfield (v := .ref 76) rfl rfl rfl (by decide) rfl ?_
    refine E_iload_n rfl rfl ?_
    refine E_iaload (x := 0) (j := 7) rfl rfl (by decide) (by decide) rfl ?_
    refine E_iconst (x := 2) rfl (by decide) ?_
    refine E_ic (t := 31) (b := true) rfl rfl (by decide) ?_
    refine E_aload_n rfl rfl ?_
    refine E_getfield (v := .ref 76) rfl rfl rfl (by decide) rfl ?_
    refine E_iload_n rfl rfl ?_
    refine E_iaload (x := 0) (j := 7) rfl rfl (by decide) (by decide) rfl ?_
    refine E_if (t := 47) (b := false) rfl rfl (by decide) ?_
    refine E_aload_n rfl rfl ?_
    refine E_bipush (x := (-3)) rfl (by decide) ?_
    refine E_callV (v := some (.int (-3))) (As := [.ref 65, .int (-3)]) (r0 := []) (cs2 := ((w0.set 48 (.inl [0, 0, 0, 1, 0, 0, 0, 0])).set 66 (.inl [0, 0, 0, 1, 0, 0, 0, 0]))) rfl rfl rfl (Nat.le_of_ble_eq_true rfl) rfl rfl c35_X6_no (by decide) (by simp only [List.length_set]) ?_
    exact E_iret rfl rfl, (by simp only [List.length_set]; rfl), (by simp only [List.length_set]; rfl), ((ab_szs rfl).trans ((ab_szs rfl).trans rfl)), fun _ => rfl⟩
theorem f_set_10 (a1 a2 : Int32) (v : Int64) (ha1l : (8 : Int) ≤ a1.toInt) : p1_P 3 77 2 136 [.ref 0, .int a1, .int a2, .long v] [.ref 65, .int a1, .int a2, .long v] :=
  ⟨(-1), (w0.set 48 (.inl [0, 1, 0, 0, 0, 0, 0, 0])), ((w0.set 48 (.inl [0, 1, 0, 0, 0, 0, 0, 0])).set 66 (.inl [0, 1, 0, 0, 0, 0, 0, 0])), by
    refine Ef.in (md := mX5_set) (L := [some (.ref 0), some (.int a1), some (.int a2), some (.long v), none, none]) rfl (Nat.le_of_ble_eq_true rfl) rfl ?_
    refine E_aload_n rfl rfl ?_
    refine E_iload_n rfl rfl ?_
    have e3 : Ev ab_Z0 2 119 [.ref 0, .int a1] w0 (some (.int 1), w0) := by
      refine Ef.in (md := mX5_whyNoRow) (L := [some (.ref 0), some (.int a1)]) rfl (Nat.le_of_ble_eq_true rfl) rfl ?_
      refine E_iload_n rfl rfl ?_
      have e2 : Ev ab_Z0 1 117 [.int a1] w0 (some (.int 0), w0) := by
        refine Ef.in (md := mX5_isShelf) (L := [some (.int a1)]) rfl (Nat.le_of_ble_eq_true rfl) rfl ?_
        refine E_iload_n rfl rfl ?_
        refine E_if (t := 14) (b := false) rfl rfl ((cn_lt (rfl : (a1).toInt = (a1).toInt) (by decide : (0 : Int32).toInt = 0)).trans (decide_eq_false (by omega))) ?_
        refine E_iload_n rfl rfl ?_
        refine E_bipush (x := 8) rfl (by decide) ?_
        refine E_ic (t := 14) (b := true) rfl rfl ((cn_ge (rfl : (a1).toInt = (a1).toInt) (by decide : (8 : Int32).toInt = 8)).trans (decide_eq_true (by omega))) ?_
        refine E_iconst (x := 0) rfl (by decide) ?_
        exact E_iret rfl rfl
      refine E_callS (v := some (.int 0)) (As := [.int a1]) (r0 := []) (cs2 := w0) rfl rfl rfl (Nat.le_of_ble_eq_true rfl) rfl e2 (by decide) rfl ?_
      refine E_if (t := 9) (b := false) rfl rfl (by decide) ?_
      refine E_iconst (x := 1) rfl (by decide) ?_
      exact E_iret rfl rfl
    refine E_callV (v := some (.int 1)) (As := [.ref 0, .int a1]) (r0 := []) (cs2 := w0) rfl rfl rfl (Nat.le_of_ble_eq_true rfl) rfl rfl e3 (by decide) rfl ?_
    refine E_istore (L2 := [some (.ref 0), some (.int a1), some (.int a2), some (.long v), none, some (.int 1)]) rfl rfl ?_
    refine E_iload rfl rfl ?_
    refine E_if (t := 19) (b := false) rfl rfl (by decide) ?_
    refine E_aload_n rfl rfl ?_
    refine E_iload rfl rfl ?_
    refine E_callV (v := some (.int (-1))) (As := [.ref 0, .int 1]) (r0 := []) (cs2 := (w0.set 48 (.inl [0, 1, 0, 0, 0, 0, 0, 0]))) rfl rfl rfl (Nat.le_of_ble_eq_true rfl) rfl rfl c1_X5_refuse (by decide) (by simp only [List.length_set]) ?_
    exact E_iret rfl rfl, by
    refine Ef.in (md := mX6_set) (L := [some (.ref 65), some (.int a1), some (.int a2), some (.long v), none]) rfl (Nat.le_of_ble_eq_true rfl) rfl ?_
    refine E_aload_n rfl rfl ?_
    refine E_iload_n rfl rfl ?_
    have e3 : Ev ab_Z0 1 131 [.ref 65, .int a1] (w0.set 48 (.inl [0, 1, 0, 0, 0, 0, 0, 0])) (some (.int 0), (w0.set 48 (.inl [0, 1, 0, 0, 0, 0, 0, 0]))) := by
      refine Ef.in (md := mX6_isShelf) (L := [some (.ref 65), some (.int a1)]) rfl (Nat.le_of_ble_eq_true rfl) rfl ?_
      refine E_iload_n rfl rfl ?_
      refine E_if (t := 14) (b := false) rfl rfl ((cn_lt (rfl : (a1).toInt = (a1).toInt) (by decide : (0 : Int32).toInt = 0)).trans (decide_eq_false (by omega))) ?_
      refine E_iload_n rfl rfl ?_
      refine E_bipush (x := 8) rfl (by decide) ?_
      refine E_ic (t := 14) (b := true) rfl rfl ((cn_ge (rfl : (a1).toInt = (a1).toInt) (by decide : (8 : Int32).toInt = 8)).trans (decide_eq_true (by omega))) ?_
      refine E_iconst (x := 0) rfl (by decide) ?_
      exact E_iret rfl rfl
    refine E_callV (v := some (.int 0)) (As := [.ref 65, .int a1]) (r0 := []) (cs2 := (w0.set 48 (.inl [0, 1, 0, 0, 0, 0, 0, 0]))) rfl rfl rfl (Nat.le_of_ble_eq_true rfl) rfl rfl e3 (by decide) rfl ?_
    refine E_if (t := 14) (b := false) rfl rfl (by decide) ?_
    refine E_aload_n rfl rfl ?_
    refine E_iconst (x := (-1)) rfl (by decide) ?_
    refine E_callV (v := some (.int (-1))) (As := [.ref 65, .int (-1)]) (r0 := []) (cs2 := ((w0.set 48 (.inl [0, 1, 0, 0, 0, 0, 0, 0])).set 66 (.inl [0, 1, 0, 0, 0, 0, 0, 0]))) rfl rfl rfl (Nat.le_of_ble_eq_true rfl) rfl rfl c3_X6_no (by decide) (by simp only [List.length_set]) ?_
    exact E_iret rfl rfl, (by simp only [List.length_set]; rfl), (by simp only [List.length_set]; rfl), ((ab_szs rfl).trans ((ab_szs rfl).trans rfl)), fun _ => rfl⟩
theorem f_set (a1 a2 : Int32) (v : Int64) : p1_P 3 77 2 136 [.ref 0, .int a1, .int a2, .long v] [.ref 65, .int a1, .int a2, .long v] := by
  rcases ab_ltge a1.toInt (0) with h | h
  · exact f_set_1 a1 a2 v (by omega)
  rcases ab_ltge a1.toInt (8) with h | h
  · rcases ab_ltge a1.toInt (1) with h | h
    · obtain rfl : a1 = 0 := Int32.toInt_inj.mp (by rw [show ((0 : Int32).toInt = 0) by decide]; omega)
      exact f_set_2 a2 v
    rcases ab_ltge a1.toInt (2) with h | h
    · obtain rfl : a1 = 1 := Int32.toInt_inj.mp (by rw [show ((1 : Int32).toInt = 1) by decide]; omega)
      exact f_set_3 a2 v
    rcases ab_ltge a1.toInt (3) with h | h
    · obtain rfl : a1 = 2 := Int32.toInt_inj.mp (by rw [show ((2 : Int32).toInt = 2) by decide]; omega)
      exact f_set_4 a2 v
    rcases ab_ltge a1.toInt (4) with h | h
    · obtain rfl : a1 = 3 := Int32.toInt_inj.mp (by rw [show ((3 : Int32).toInt = 3) by decide]; omega)
      exact f_set_5 a2 v
    rcases ab_ltge a1.toInt (5) with h | h
    · obtain rfl : a1 = 4 := Int32.toInt_inj.mp (by rw [show ((4 : Int32).toInt = 4) by decide]; omega)
      exact f_set_6 a2 v
    rcases ab_ltge a1.toInt (6) with h | h
    · obtain rfl : a1 = 5 := Int32.toInt_inj.mp (by rw [show ((5 : Int32).toInt = 5) by decide]; omega)
      exact f_set_7 a2 v
    rcases ab_ltge a1.toInt (7) with h | h
    · obtain rfl : a1 = 6 := Int32.toInt_inj.mp (by rw [show ((6 : Int32).toInt = 6) by decide]; omega)
      exact f_set_8 a2 v
    obtain rfl : a1 = 7 := Int32.toInt_inj.mp (by rw [show ((7 : Int32).toInt = 7) by decide]; omega)
    exact f_set_9 a2 v
  exact f_set_10 a1 a2 v (by omega)
