theorem c2_X5_isFrom : Ev ab_Z0 1 115 [.int 1, .int 1, .int 7] w0 (some (.int 1), w0) := by
  refine Ef.in (md := mX5_isFrom) (L := [some (.int 1), some (.int 1), some (.int 7)]) rfl (Nat.le_of_ble_eq_true rfl) rfl ?_
  refine E_iload_n rfl rfl ?_
  refine E_iload_n rfl rfl ?_
  refine E_ic (t := 14) (b := false) rfl rfl (by decide) ?_
  refine E_iload_n rfl rfl ?_
  refine E_iload_n rfl rfl ?_
  refine E_ic (t := 14) (b := false) rfl rfl (by decide) ?_
  refine E_iconst (x := 1) rfl (by decide) ?_
  refine E_goto (t := 15) rfl rfl ?_
  exact E_iret rfl rfl
theorem c1_X5_refuse : Ev ab_Z0 2 118 [.ref 0, .int 1] w0 (some (.int (-1)), (w0.set 48 (.inl [0, 1, 0, 0, 0, 0, 0, 0]))) := by
  refine Ef.in (md := mX5_refuse) (L := [some (.ref 0), some (.int 1)]) rfl (Nat.le_of_ble_eq_true rfl) rfl ?_
  refine E_iload_n rfl rfl ?_
  refine E_iconst (x := 1) rfl (by decide) ?_
  refine E_bipush (x := 7) rfl (by decide) ?_
  refine E_callS (v := some (.int 1)) (As := [.int 1, .int 1, .int 7]) (r0 := []) (cs2 := w0) rfl rfl rfl (Nat.le_of_ble_eq_true rfl) rfl c2_X5_isFrom (by decide) rfl ?_
  refine E_if (t := 20) (b := false) rfl rfl (by decide) ?_
  refine E_aload_n rfl rfl ?_
  refine E_getfield (v := .ref 48) rfl rfl rfl (by decide) rfl ?_
  refine E_iload_n rfl rfl ?_
  refine E_dup2 rfl ⟨rfl, rfl⟩ ?_
  refine E_iaload (x := 0) (j := 1) rfl rfl (by decide) (by decide) rfl ?_
  refine E_iconst (x := 1) rfl (by decide) ?_
  refine E_iadd (z := 1) rfl (by decide) ?_
  refine E_iastore (j := 1) (cs2 := (w0.set 48 (.inl [0, 1, 0, 0, 0, 0, 0, 0]))) rfl rfl (by decide) (by decide) (Nat.le_of_ble_eq_true rfl) rfl ?_
  refine E_iload_n rfl rfl ?_
  refine E_ineg (z := (-1)) rfl (by decide) ?_
  exact E_iret rfl rfl
theorem c3_X6_no : Ev ab_Z0 1 129 [.ref 65, .int (-1)] (w0.set 48 (.inl [0, 1, 0, 0, 0, 0, 0, 0])) (some (.int (-1)), ((w0.set 48 (.inl [0, 1, 0, 0, 0, 0, 0, 0])).set 66 (.inl [0, 1, 0, 0, 0, 0, 0, 0]))) := by
  refine Ef.in (md := mX6_no) (L := [some (.ref 65), some (.int (-1))]) rfl (Nat.le_of_ble_eq_true rfl) rfl ?_
  refine E_aload_n rfl rfl ?_
  refine E_getfield (v := .ref 66) rfl rfl rfl (by decide) rfl ?_
  refine E_iload_n rfl rfl ?_
  refine E_ineg (z := 1) rfl (by decide) ?_
  refine E_dup2 rfl ⟨rfl, rfl⟩ ?_
  refine E_iaload (x := 0) (j := 1) rfl rfl (by decide) (by decide) rfl ?_
  refine E_iconst (x := 1) rfl (by decide) ?_
  refine E_iadd (z := 1) rfl (by decide) ?_
  refine E_iastore (j := 1) (cs2 := ((w0.set 48 (.inl [0, 1, 0, 0, 0, 0, 0, 0])).set 66 (.inl [0, 1, 0, 0, 0, 0, 0, 0]))) rfl rfl (by decide) (by decide) (Nat.le_of_ble_eq_true rfl) rfl ?_
  refine E_iload_n rfl rfl ?_
  exact E_iret rfl rfl
theorem c5_X5_isFrom : Ev ab_Z0 1 115 [.int 4, .int 1, .int 7] w0 (some (.int 1), w0) := by
  refine Ef.in (md := mX5_isFrom) (L := [some (.int 4), some (.int 1), some (.int 7)]) rfl (Nat.le_of_ble_eq_true rfl) rfl ?_
  refine E_iload_n rfl rfl ?_
  refine E_iload_n rfl rfl ?_
  refine E_ic (t := 14) (b := false) rfl rfl (by decide) ?_
  refine E_iload_n rfl rfl ?_
  refine E_iload_n rfl rfl ?_
  refine E_ic (t := 14) (b := false) rfl rfl (by decide) ?_
  refine E_iconst (x := 1) rfl (by decide) ?_
  refine E_goto (t := 15) rfl rfl ?_
  exact E_iret rfl rfl
theorem c4_X5_refuse : Ev ab_Z0 2 118 [.ref 0, .int 4] w0 (some (.int (-4)), (w0.set 48 (.inl [0, 0, 0, 0, 1, 0, 0, 0]))) := by
  refine Ef.in (md := mX5_refuse) (L := [some (.ref 0), some (.int 4)]) rfl (Nat.le_of_ble_eq_true rfl) rfl ?_
  refine E_iload_n rfl rfl ?_
  refine E_iconst (x := 1) rfl (by decide) ?_
  refine E_bipush (x := 7) rfl (by decide) ?_
  refine E_callS (v := some (.int 1)) (As := [.int 4, .int 1, .int 7]) (r0 := []) (cs2 := w0) rfl rfl rfl (Nat.le_of_ble_eq_true rfl) rfl c5_X5_isFrom (by decide) rfl ?_
  refine E_if (t := 20) (b := false) rfl rfl (by decide) ?_
  refine E_aload_n rfl rfl ?_
  refine E_getfield (v := .ref 48) rfl rfl rfl (by decide) rfl ?_
  refine E_iload_n rfl rfl ?_
  refine E_dup2 rfl ⟨rfl, rfl⟩ ?_
  refine E_iaload (x := 0) (j := 4) rfl rfl (by decide) (by decide) rfl ?_
  refine E_iconst (x := 1) rfl (by decide) ?_
  refine E_iadd (z := 1) rfl (by decide) ?_
  refine E_iastore (j := 4) (cs2 := (w0.set 48 (.inl [0, 0, 0, 0, 1, 0, 0, 0]))) rfl rfl (by decide) (by decide) (Nat.le_of_ble_eq_true rfl) rfl ?_
  refine E_iload_n rfl rfl ?_
  refine E_ineg (z := (-4)) rfl (by decide) ?_
  exact E_iret rfl rfl
theorem c6_X6_no : Ev ab_Z0 1 129 [.ref 65, .int (-4)] (w0.set 48 (.inl [0, 0, 0, 0, 1, 0, 0, 0])) (some (.int (-4)), ((w0.set 48 (.inl [0, 0, 0, 0, 1, 0, 0, 0])).set 66 (.inl [0, 0, 0, 0, 1, 0, 0, 0]))) := by
  refine Ef.in (md := mX6_no) (L := [some (.ref 65), some (.int (-4))]) rfl (Nat.le_of_ble_eq_true rfl) rfl ?_
  refine E_aload_n rfl rfl ?_
  refine E_getfield (v := .ref 66) rfl rfl rfl (by decide) rfl ?_
  refine E_iload_n rfl rfl ?_
  refine E_ineg (z := 4) rfl (by decide) ?_
  refine E_dup2 rfl ⟨rfl, rfl⟩ ?_
  refine E_iaload (x := 0) (j := 4) rfl rfl (by decide) (by decide) rfl ?_
  refine E_iconst (x := 1) rfl (by decide) ?_
  refine E_iadd (z := 1) rfl (by decide) ?_
  refine E_iastore (j := 4) (cs2 := ((w0.set 48 (.inl [0, 0, 0, 0, 1, 0, 0, 0])).set 66 (.inl [0, 0, 0, 0, 1, 0, 0, 0]))) rfl rfl (by decide) (by decide) (Nat.le_of_ble_eq_true rfl) rfl ?_
  refine E_iload_n rfl rfl ?_
  exact E_iret rfl rfl
theorem c8_X5_isFrom : Ev ab_Z0 1 115 [.int 6, .int 1, .int 7] w0 (some (.int 1), w0) := by
  refine Ef.in (md := mX5_isFrom) (L := [some (.int 6), some (.int 1), some (.int 7)]) rfl (Nat.le_of_ble_eq_true rfl) rfl ?_
  refine E_iload_n rfl rfl ?_
  refine E_iload_n rfl rfl ?_
  refine E_ic (t := 14) (b := false) rfl rfl (by decide) ?_
  refine E_iload_n rfl rfl ?_
  refine E_iload_n rfl rfl ?_
  refine E_ic (t := 14) (b := false) rfl rfl (by decide) ?_
  refine E_iconst (x := 1) rfl (by decide) ?_
  refine E_goto (t := 15) rfl rfl ?_
  exact E_iret rfl rfl
theorem c7_X5_refuse : Ev ab_Z0 2 118 [.ref 0, .int 6] w0 (some (.int (-6)), (w0.set 48 (.inl [0, 0, 0, 0, 0, 0, 1, 0]))) := by
  refine Ef.in (md := mX5_refuse) (L := [some (.ref 0), some (.int 6)]) rfl (Nat.le_of_ble_eq_true rfl) rfl ?_
  refine E_iload_n rfl rfl ?_
  refine E_iconst (x := 1) rfl (by decide) ?_
  refine E_bipush (x := 7) rfl (by decide) ?_
  refine E_callS (v := some (.int 1)) (As := [.int 6, .int 1, .int 7]) (r0 := []) (cs2 := w0) rfl rfl rfl (Nat.le_of_ble_eq_true rfl) rfl c8_X5_isFrom (by decide) rfl ?_
  refine E_if (t := 20) (b := false) rfl rfl (by decide) ?_
  refine E_aload_n rfl rfl ?_
  refine E_getfield (v := .ref 48) rfl rfl rfl (by decide) rfl ?_
  refine E_iload_n rfl rfl ?_
  refine E_dup2 rfl ⟨rfl, rfl⟩ ?_
  refine E_iaload (x := 0) (j := 6) rfl rfl (by decide) (by decide) rfl ?_
  refine E_iconst (x := 1) rfl (by decide) ?_
  refine E_iadd (z := 1) rfl (by decide) ?_
  refine E_iastore (j := 6) (cs2 := (w0.set 48 (.inl [0, 0, 0, 0, 0, 0, 1, 0]))) rfl rfl (by decide) (by decide) (Nat.le_of_ble_eq_true rfl) rfl ?_
  refine E_iload_n rfl rfl ?_
  refine E_ineg (z := (-6)) rfl (by decide) ?_
  exact E_iret rfl rfl
theorem c9_X6_no : Ev ab_Z0 1 129 [.ref 65, .int (-6)] (w0.set 48 (.inl [0, 0, 0, 0, 0, 0, 1, 0])) (some (.int (-6)), ((w0.set 48 (.inl [0, 0, 0, 0, 0, 0, 1, 0])).set 66 (.inl [0, 0, 0, 0, 0, 0, 1, 0]))) := by
  refine Ef.in (md := mX6_no) (L := [some (.ref 65), some (.int (-6))]) rfl (Nat.le_of_ble_eq_true rfl) rfl ?_
  refine E_aload_n rfl rfl ?_
  refine E_getfield (v := .ref 66) rfl rfl rfl (by decide) rfl ?_
  refine E_iload_n rfl rfl ?_
  refine E_ineg (z := 6) rfl (by decide) ?_
  refine E_dup2 rfl ⟨rfl, rfl⟩ ?_
  refine E_iaload (x := 0) (j := 6) rfl rfl (by decide) (by decide) rfl ?_
  refine E_iconst (x := 1) rfl (by decide) ?_
  refine E_iadd (z := 1) rfl (by decide) ?_
  refine E_iastore (j := 6) (cs2 := ((w0.set 48 (.inl [0, 0, 0, 0, 0, 0, 1, 0])).set 66 (.inl [0, 0, 0, 0, 0, 0, 1, 0]))) rfl rfl (by decide) (by decide) (Nat.le_of_ble_eq_true rfl) rfl ?_
  refine E_iload_n rfl rfl ?_
  exact E_iret rfl rfl
theorem c10_X5_isShelf : Ev ab_Z0 1 117 [.int 0] w0 (some (.int 1), w0) := by
  refine Ef.in (md := mX5_isShelf) (L := [some (.int 0)]) rfl (Nat.le_of_ble_eq_true rfl) rfl ?_
  refine E_iload_n rfl rfl ?_
  refine E_if (t := 14) (b := false) rfl rfl (by decide) ?_
  refine E_iload_n rfl rfl ?_
  refine E_bipush (x := 8) rfl (by decide) ?_
  refine E_ic (t := 14) (b := false) rfl rfl (by decide) ?_
  refine E_iconst (x := 1) rfl (by decide) ?_
  refine E_goto (t := 15) rfl rfl ?_
  exact E_iret rfl rfl
theorem c11_J7_fill_d0a16 : Ev ab_Z0 1 214 [.ref 50, .long 0] w0 (none, w0) := Ev.by (f := 1459) (by decide +kernel)
theorem c12_X5_isShelf : Ev ab_Z0 1 117 [.int 1] w0 (some (.int 1), w0) := by
  refine Ef.in (md := mX5_isShelf) (L := [some (.int 1)]) rfl (Nat.le_of_ble_eq_true rfl) rfl ?_
  refine E_iload_n rfl rfl ?_
  refine E_if (t := 14) (b := false) rfl rfl (by decide) ?_
  refine E_iload_n rfl rfl ?_
  refine E_bipush (x := 8) rfl (by decide) ?_
  refine E_ic (t := 14) (b := false) rfl rfl (by decide) ?_
  refine E_iconst (x := 1) rfl (by decide) ?_
  refine E_goto (t := 15) rfl rfl ?_
  exact E_iret rfl rfl
theorem c13_J7_fill_d0a16 : Ev ab_Z0 1 214 [.ref 52, .long 0] w0 (none, w0) := Ev.by (f := 1459) (by decide +kernel)
theorem c14_X5_isShelf : Ev ab_Z0 1 117 [.int 2] w0 (some (.int 1), w0) := by
  refine Ef.in (md := mX5_isShelf) (L := [some (.int 2)]) rfl (Nat.le_of_ble_eq_true rfl) rfl ?_
  refine E_iload_n rfl rfl ?_
  refine E_if (t := 14) (b := false) rfl rfl (by decide) ?_
  refine E_iload_n rfl rfl ?_
  refine E_bipush (x := 8) rfl (by decide) ?_
  refine E_ic (t := 14) (b := false) rfl rfl (by decide) ?_
  refine E_iconst (x := 1) rfl (by decide) ?_
  refine E_goto (t := 15) rfl rfl ?_
  exact E_iret rfl rfl
theorem c15_J7_fill_d0a16 : Ev ab_Z0 1 214 [.ref 54, .long 0] w0 (none, w0) := Ev.by (f := 1459) (by decide +kernel)
theorem c16_X5_isShelf : Ev ab_Z0 1 117 [.int 3] w0 (some (.int 1), w0) := by
  refine Ef.in (md := mX5_isShelf) (L := [some (.int 3)]) rfl (Nat.le_of_ble_eq_true rfl) rfl ?_
  refine E_iload_n rfl rfl ?_
  refine E_if (t := 14) (b := false) rfl rfl (by decide) ?_
  refine E_iload_n rfl rfl ?_
  refine E_bipush (x := 8) rfl (by decide) ?_
  refine E_ic (t := 14) (b := false) rfl rfl (by decide) ?_
  refine E_iconst (x := 1) rfl (by decide) ?_
  refine E_goto (t := 15) rfl rfl ?_
  exact E_iret rfl rfl
theorem c17_J7_fill_d0a16 : Ev ab_Z0 1 214 [.ref 56, .long 0] w0 (none, w0) := Ev.by (f := 1459) (by decide +kernel)
theorem c18_X5_isShelf : Ev ab_Z0 1 117 [.int 4] w0 (some (.int 1), w0) := by
  refine Ef.in (md := mX5_isShelf) (L := [some (.int 4)]) rfl (Nat.le_of_ble_eq_true rfl) rfl ?_
  refine E_iload_n rfl rfl ?_
  refine E_if (t := 14) (b := false) rfl rfl (by decide) ?_
  refine E_iload_n rfl rfl ?_
  refine E_bipush (x := 8) rfl (by decide) ?_
  refine E_ic (t := 14) (b := false) rfl rfl (by decide) ?_
  refine E_iconst (x := 1) rfl (by decide) ?_
  refine E_goto (t := 15) rfl rfl ?_
  exact E_iret rfl rfl
theorem c19_J7_fill_d0a16 : Ev ab_Z0 1 214 [.ref 58, .long 0] w0 (none, w0) := Ev.by (f := 1459) (by decide +kernel)
theorem c20_X5_isShelf : Ev ab_Z0 1 117 [.int 5] w0 (some (.int 1), w0) := by
  refine Ef.in (md := mX5_isShelf) (L := [some (.int 5)]) rfl (Nat.le_of_ble_eq_true rfl) rfl ?_
  refine E_iload_n rfl rfl ?_
  refine E_if (t := 14) (b := false) rfl rfl (by decide) ?_
  refine E_iload_n rfl rfl ?_
  refine E_bipush (x := 8) rfl (by decide) ?_
  refine E_ic (t := 14) (b := false) rfl rfl (by decide) ?_
  refine E_iconst (x := 1) rfl (by decide) ?_
  refine E_goto (t := 15) rfl rfl ?_
  exact E_iret rfl rfl
theorem c21_J7_fill_d0a16 : Ev ab_Z0 1 214 [.ref 60, .long 0] w0 (none, w0) := Ev.by (f := 1459) (by decide +kernel)
theorem c22_X5_isShelf : Ev ab_Z0 1 117 [.int 6] w0 (some (.int 1), w0) := by
  refine Ef.in (md := mX5_isShelf) (L := [some (.int 6)]) rfl (Nat.le_of_ble_eq_true rfl) rfl ?_
  refine E_iload_n rfl rfl ?_
  refine E_if (t := 14) (b := false) rfl rfl (by decide) ?_
  refine E_iload_n rfl rfl ?_
  refine E_bipush (x := 8) rfl (by decide) ?_
  refine E_ic (t := 14) (b := false) rfl rfl (by decide) ?_
  refine E_iconst (x := 1) rfl (by decide) ?_
  refine E_goto (t := 15) rfl rfl ?_
  exact E_iret rfl rfl
theorem c23_J7_fill_d0a16 : Ev ab_Z0 1 214 [.ref 62, .long 0] w0 (none, w0) := Ev.by (f := 1459) (by decide +kernel)
theorem c24_X5_isShelf : Ev ab_Z0 1 117 [.int 7] w0 (some (.int 1), w0) := by
  refine Ef.in (md := mX5_isShelf) (L := [some (.int 7)]) rfl (Nat.le_of_ble_eq_true rfl) rfl ?_
  refine E_iload_n rfl rfl ?_
  refine E_if (t := 14) (b := false) rfl rfl (by decide) ?_
  refine E_iload_n rfl rfl ?_
  refine E_bipush (x := 8) rfl (by decide) ?_
  refine E_ic (t := 14) (b := false) rfl rfl (by decide) ?_
  refine E_iconst (x := 1) rfl (by decide) ?_
  refine E_goto (t := 15) rfl rfl ?_
  exact E_iret rfl rfl
theorem c25_J7_fill_d0a16 : Ev ab_Z0 1 214 [.ref 64, .long 0] w0 (none, w0) := Ev.by (f := 1459) (by decide +kernel)
theorem c27_X5_isFrom : Ev ab_Z0 1 115 [.int 7, .int 1, .int 7] w0 (some (.int 1), w0) := by
  refine Ef.in (md := mX5_isFrom) (L := [some (.int 7), some (.int 1), some (.int 7)]) rfl (Nat.le_of_ble_eq_true rfl) rfl ?_
  refine E_iload_n rfl rfl ?_
  refine E_iload_n rfl rfl ?_
  refine E_ic (t := 14) (b := false) rfl rfl (by decide) ?_
  refine E_iload_n rfl rfl ?_
  refine E_iload_n rfl rfl ?_
  refine E_ic (t := 14) (b := false) rfl rfl (by decide) ?_
  refine E_iconst (x := 1) rfl (by decide) ?_
  refine E_goto (t := 15) rfl rfl ?_
  exact E_iret rfl rfl
theorem c26_X5_refuse : Ev ab_Z0 2 118 [.ref 0, .int 7] w0 (some (.int (-7)), (w0.set 48 (.inl [0, 0, 0, 0, 0, 0, 0, 1]))) := by
  refine Ef.in (md := mX5_refuse) (L := [some (.ref 0), some (.int 7)]) rfl (Nat.le_of_ble_eq_true rfl) rfl ?_
  refine E_iload_n rfl rfl ?_
  refine E_iconst (x := 1) rfl (by decide) ?_
  refine E_bipush (x := 7) rfl (by decide) ?_
  refine E_callS (v := some (.int 1)) (As := [.int 7, .int 1, .int 7]) (r0 := []) (cs2 := w0) rfl rfl rfl (Nat.le_of_ble_eq_true rfl) rfl c27_X5_isFrom (by decide) rfl ?_
  refine E_if (t := 20) (b := false) rfl rfl (by decide) ?_
  refine E_aload_n rfl rfl ?_
  refine E_getfield (v := .ref 48) rfl rfl rfl (by decide) rfl ?_
  refine E_iload_n rfl rfl ?_
  refine E_dup2 rfl ⟨rfl, rfl⟩ ?_
  refine E_iaload (x := 0) (j := 7) rfl rfl (by decide) (by decide) rfl ?_
  refine E_iconst (x := 1) rfl (by decide) ?_
  refine E_iadd (z := 1) rfl (by decide) ?_
  refine E_iastore (j := 7) (cs2 := (w0.set 48 (.inl [0, 0, 0, 0, 0, 0, 0, 1]))) rfl rfl (by decide) (by decide) (Nat.le_of_ble_eq_true rfl) rfl ?_
  refine E_iload_n rfl rfl ?_
  refine E_ineg (z := (-7)) rfl (by decide) ?_
  exact E_iret rfl rfl
theorem c28_X6_no : Ev ab_Z0 1 129 [.ref 65, .int (-7)] (w0.set 48 (.inl [0, 0, 0, 0, 0, 0, 0, 1])) (some (.int (-7)), ((w0.set 48 (.inl [0, 0, 0, 0, 0, 0, 0, 1])).set 66 (.inl [0, 0, 0, 0, 0, 0, 0, 1]))) := by
  refine Ef.in (md := mX6_no) (L := [some (.ref 65), some (.int (-7))]) rfl (Nat.le_of_ble_eq_true rfl) rfl ?_
  refine E_aload_n rfl rfl ?_
  refine E_getfield (v := .ref 66) rfl rfl rfl (by decide) rfl ?_
  refine E_iload_n rfl rfl ?_
  refine E_ineg (z := 7) rfl (by decide) ?_
  refine E_dup2 rfl ⟨rfl, rfl⟩ ?_
  refine E_iaload (x := 0) (j := 7) rfl rfl (by decide) (by decide) rfl ?_
  refine E_iconst (x := 1) rfl (by decide) ?_
  refine E_iadd (z := 1) rfl (by decide) ?_
  refine E_iastore (j := 7) (cs2 := ((w0.set 48 (.inl [0, 0, 0, 0, 0, 0, 0, 1])).set 66 (.inl [0, 0, 0, 0, 0, 0, 0, 1]))) rfl rfl (by decide) (by decide) (Nat.le_of_ble_eq_true rfl) rfl ?_
  refine E_iload_n rfl rfl ?_
  exact E_iret rfl rfl
theorem f_row_1 (a1 a2 a3 : Int32) (ha1h : a1.toInt ≤ -1) : p1_P 3 76 2 135 [.ref 0, .int a1, .int a2, .int a3] [.ref 65, .int a1, .int a2, .int a3] :=
  ⟨(-1), (w0.set 48 (.inl [0, 1, 0, 0, 0, 0, 0, 0])), ((w0.set 48 (.inl [0, 1, 0, 0, 0, 0, 0, 0])).set 66 (.inl [0, 1, 0, 0, 0, 0, 0, 0])), by
    refine Ef.in (md := mX5_row) (L := [some (.ref 0), some (.int a1), some (.int a2), some (.int a3)]) rfl (Nat.le_of_ble_eq_true rfl) rfl ?_
    refine E_iload_n rfl rfl ?_
    have e2 : Ev ab_Z0 1 117 [.int a1] w0 (some (.int 0), w0) := by
      refine Ef.in (md := mX5_isShelf) (L := [some (.int a1)]) rfl (Nat.le_of_ble_eq_true rfl) rfl ?_
      refine E_iload_n rfl rfl ?_
      refine E_if (t := 14) (b := true) rfl rfl ((cn_lt (rfl : (a1).toInt = (a1).toInt) (by decide : (0 : Int32).toInt = 0)).trans (decide_eq_true (by omega))) ?_
      refine E_iconst (x := 0) rfl (by decide) ?_
      exact E_iret rfl rfl
    refine E_callS (v := some (.int 0)) (As := [.int a1]) (r0 := []) (cs2 := w0) rfl rfl rfl (Nat.le_of_ble_eq_true rfl) rfl e2 (by decide) rfl ?_
    refine E_if (t := 13) (b := false) rfl rfl (by decide) ?_
    refine E_aload_n rfl rfl ?_
    refine E_iconst (x := 1) rfl (by decide) ?_
    refine E_callV (v := some (.int (-1))) (As := [.ref 0, .int 1]) (r0 := []) (cs2 := (w0.set 48 (.inl [0, 1, 0, 0, 0, 0, 0, 0]))) rfl rfl rfl (Nat.le_of_ble_eq_true rfl) rfl rfl c1_X5_refuse (by decide) (by simp only [List.length_set]) ?_
    exact E_iret rfl rfl, by
    refine Ef.in (md := mX6_row) (L := [some (.ref 65), some (.int a1), some (.int a2), some (.int a3), none]) rfl (Nat.le_of_ble_eq_true rfl) rfl ?_
    refine E_aload_n rfl rfl ?_
    refine E_iload_n rfl rfl ?_
    have e3 : Ev ab_Z0 1 131 [.ref 65, .int a1] (w0.set 48 (.inl [0, 1, 0, 0, 0, 0, 0, 0])) (some (.int 0), (w0.set 48 (.inl [0, 1, 0, 0, 0, 0, 0, 0]))) := by
      refine Ef.in (md := mX6_isShelf) (L := [some (.ref 65), some (.int a1)]) rfl (Nat.le_of_ble_eq_true rfl) rfl ?_
      refine E_iload_n rfl rfl ?_
      refine E_if (t := 14) (b := true) rfl rfl ((cn_lt (rfl : (a1).toInt = (a1).toInt) (by decide : (0 : Int32).toInt = 0)).trans (decide_eq_true (by omega))) ?_
      refine E_iconst (x := 0) rfl (by decide) ?_
      exact E_iret rfl rfl
    refine E_callV (v := some (.int 0)) (As := [.ref 65, .int a1]) (r0 := []) (cs2 := (w0.set 48 (.inl [0, 1, 0, 0, 0, 0, 0, 0]))) rfl rfl rfl (Nat.le_of_ble_eq_true rfl) rfl rfl e3 (by decide) rfl ?_
    refine E_if (t := 14) (b := false) rfl rfl (by decide) ?_
    refine E_aload_n rfl rfl ?_
    refine E_iconst (x := (-1)) rfl (by decide) ?_
    refine E_callV (v := some (.int (-1))) (As := [.ref 65, .int (-1)]) (r0 := []) (cs2 := ((w0.set 48 (.inl [0, 1, 0, 0, 0, 0, 0, 0])).set 66 (.inl [0, 1, 0, 0, 0, 0, 0, 0]))) rfl rfl rfl (Nat.le_of_ble_eq_true rfl) rfl rfl c3_X6_no (by decide) (by simp only [List.length_set]) ?_
    exact E_iret rfl rfl, (by simp only [List.length_set]; rfl), (by simp only [List.length_set]; rfl), ((ab_szs rfl).trans ((ab_szs rfl).trans rfl)), fun _ => rfl⟩
theorem f_row_2 (a1 a2 a3 : Int32) (ha1l : (0 : Int) ≤ a1.toInt) (ha1h : a1.toInt ≤ 7) (ha3h : a3.toInt ≤ -1) : p1_P 3 76 2 135 [.ref 0, .int a1, .int a2, .int a3] [.ref 65, .int a1, .int a2, .int a3] :=
  ⟨(-4), (w0.set 48 (.inl [0, 0, 0, 0, 1, 0, 0, 0])), ((w0.set 48 (.inl [0, 0, 0, 0, 1, 0, 0, 0])).set 66 (.inl [0, 0, 0, 0, 1, 0, 0, 0])), by
    refine Ef.in (md := mX5_row) (L := [some (.ref 0), some (.int a1), some (.int a2), some (.int a3)]) rfl (Nat.le_of_ble_eq_true rfl) rfl ?_
    refine E_iload_n rfl rfl ?_
    have e2 : Ev ab_Z0 1 117 [.int a1] w0 (some (.int 1), w0) := by
      refine Ef.in (md := mX5_isShelf) (L := [some (.int a1)]) rfl (Nat.le_of_ble_eq_true rfl) rfl ?_
      refine E_iload_n rfl rfl ?_
      refine E_if (t := 14) (b := false) rfl rfl ((cn_lt (rfl : (a1).toInt = (a1).toInt) (by decide : (0 : Int32).toInt = 0)).trans (decide_eq_false (by omega))) ?_
      refine E_iload_n rfl rfl ?_
      refine E_bipush (x := 8) rfl (by decide) ?_
      refine E_ic (t := 14) (b := false) rfl rfl ((cn_ge (rfl : (a1).toInt = (a1).toInt) (by decide : (8 : Int32).toInt = 8)).trans (decide_eq_false (by omega))) ?_
      refine E_iconst (x := 1) rfl (by decide) ?_
      refine E_goto (t := 15) rfl rfl ?_
      exact E_iret rfl rfl
    refine E_callS (v := some (.int 1)) (As := [.int a1]) (r0 := []) (cs2 := w0) rfl rfl rfl (Nat.le_of_ble_eq_true rfl) rfl e2 (by decide) rfl ?_
    refine E_if (t := 13) (b := true) rfl rfl (by decide) ?_
    refine E_iload_n rfl rfl ?_
    refine E_if (t := 23) (b := false) rfl rfl ((cn_ge (rfl : (a3).toInt = (a3).toInt) (by decide : (0 : Int32).toInt = 0)).trans (decide_eq_false (by omega))) ?_
    refine E_aload_n rfl rfl ?_
    refine E_iconst (x := 4) rfl (by decide) ?_
    refine E_callV (v := some (.int (-4))) (As := [.ref 0, .int 4]) (r0 := []) (cs2 := (w0.set 48 (.inl [0, 0, 0, 0, 1, 0, 0, 0]))) rfl rfl rfl (Nat.le_of_ble_eq_true rfl) rfl rfl c4_X5_refuse (by decide) (by simp only [List.length_set]) ?_
    exact E_iret rfl rfl, by
    refine Ef.in (md := mX6_row) (L := [some (.ref 65), some (.int a1), some (.int a2), some (.int a3), none]) rfl (Nat.le_of_ble_eq_true rfl) rfl ?_
    refine E_aload_n rfl rfl ?_
    refine E_iload_n rfl rfl ?_
    have e3 : Ev ab_Z0 1 131 [.ref 65, .int a1] (w0.set 48 (.inl [0, 0, 0, 0, 1, 0, 0, 0])) (some (.int 1), (w0.set 48 (.inl [0, 0, 0, 0, 1, 0, 0, 0]))) := by
      refine Ef.in (md := mX6_isShelf) (L := [some (.ref 65), some (.int a1)]) rfl (Nat.le_of_ble_eq_true rfl) rfl ?_
      refine E_iload_n rfl rfl ?_
      refine E_if (t := 14) (b := false) rfl rfl ((cn_lt (rfl : (a1).toInt = (a1).toInt) (by decide : (0 : Int32).toInt = 0)).trans (decide_eq_false (by omega))) ?_
      refine E_iload_n rfl rfl ?_
      refine E_bipush (x := 8) rfl (by decide) ?_
      refine E_ic (t := 14) (b := false) rfl rfl ((cn_ge (rfl : (a1).toInt = (a1).toInt) (by decide : (8 : Int32).toInt = 8)).trans (decide_eq_false (by omega))) ?_
      refine E_iconst (x := 1) rfl (by decide) ?_
      refine E_goto (t := 15) rfl rfl ?_
      exact E_iret rfl rfl
    refine E_callV (v := some (.int 1)) (As := [.ref 65, .int a1]) (r0 := []) (cs2 := (w0.set 48 (.inl [0, 0, 0, 0, 1, 0, 0, 0]))) rfl rfl rfl (Nat.le_of_ble_eq_true rfl) rfl rfl e3 (by decide) rfl ?_
    refine E_if (t := 14) (b := true) rfl rfl (by decide) ?_
    refine E_iload_n rfl rfl ?_
    refine E_if (t := 25) (b := false) rfl rfl ((cn_ge (rfl : (a3).toInt = (a3).toInt) (by decide : (0 : Int32).toInt = 0)).trans (decide_eq_false (by omega))) ?_
    refine E_aload_n rfl rfl ?_
    refine E_bipush (x := (-4)) rfl (by decide) ?_
    refine E_callV (v := some (.int (-4))) (As := [.ref 65, .int (-4)]) (r0 := []) (cs2 := ((w0.set 48 (.inl [0, 0, 0, 0, 1, 0, 0, 0])).set 66 (.inl [0, 0, 0, 0, 1, 0, 0, 0]))) rfl rfl rfl (Nat.le_of_ble_eq_true rfl) rfl rfl c6_X6_no (by decide) (by simp only [List.length_set]) ?_
    exact E_iret rfl rfl, (by simp only [List.length_set]; rfl), (by simp only [List.length_set]; rfl), ((ab_szs rfl).trans ((ab_szs rfl).trans rfl)), fun _ => rfl⟩
theorem f_row_3 (a1 a2 a3 : Int32) (ha1l : (0 : Int) ≤ a1.toInt) (ha1h : a1.toInt ≤ 7) (ha2h : a2.toInt ≤ -1) (ha3l : (0 : Int) ≤ a3.toInt) : p1_P 3 76 2 135 [.ref 0, .int a1, .int a2, .int a3] [.ref 65, .int a1, .int a2, .int a3] :=
  ⟨(-6), (w0.set 48 (.inl [0, 0, 0, 0, 0, 0, 1, 0])), ((w0.set 48 (.inl [0, 0, 0, 0, 0, 0, 1, 0])).set 66 (.inl [0, 0, 0, 0, 0, 0, 1, 0])), by
    refine Ef.in (md := mX5_row) (L := [some (.ref 0), some (.int a1), some (.int a2), some (.int a3)]) rfl (Nat.le_of_ble_eq_true rfl) rfl ?_
    refine E_iload_n rfl rfl ?_
    have e2 : Ev ab_Z0 1 117 [.int a1] w0 (some (.int 1), w0) := by
      refine Ef.in (md := mX5_isShelf) (L := [some (.int a1)]) rfl (Nat.le_of_ble_eq_true rfl) rfl ?_
      refine E_iload_n rfl rfl ?_
      refine E_if (t := 14) (b := false) rfl rfl ((cn_lt (rfl : (a1).toInt = (a1).toInt) (by decide : (0 : Int32).toInt = 0)).trans (decide_eq_false (by omega))) ?_
      refine E_iload_n rfl rfl ?_
      refine E_bipush (x := 8) rfl (by decide) ?_
      refine E_ic (t := 14) (b := false) rfl rfl ((cn_ge (rfl : (a1).toInt = (a1).toInt) (by decide : (8 : Int32).toInt = 8)).trans (decide_eq_false (by omega))) ?_
      refine E_iconst (x := 1) rfl (by decide) ?_
      refine E_goto (t := 15) rfl rfl ?_
      exact E_iret rfl rfl
    refine E_callS (v := some (.int 1)) (As := [.int a1]) (r0 := []) (cs2 := w0) rfl rfl rfl (Nat.le_of_ble_eq_true rfl) rfl e2 (by decide) rfl ?_
    refine E_if (t := 13) (b := true) rfl rfl (by decide) ?_
    refine E_iload_n rfl rfl ?_
    refine E_if (t := 23) (b := true) rfl rfl ((cn_ge (rfl : (a3).toInt = (a3).toInt) (by decide : (0 : Int32).toInt = 0)).trans (decide_eq_true (by omega))) ?_
    refine E_iload_n rfl rfl ?_
    refine E_if (t := 32) (b := true) rfl rfl ((cn_lt (rfl : (a2).toInt = (a2).toInt) (by decide : (0 : Int32).toInt = 0)).trans (decide_eq_true (by omega))) ?_
    refine E_aload_n rfl rfl ?_
    refine E_bipush (x := 6) rfl (by decide) ?_
    refine E_callV (v := some (.int (-6))) (As := [.ref 0, .int 6]) (r0 := []) (cs2 := (w0.set 48 (.inl [0, 0, 0, 0, 0, 0, 1, 0]))) rfl rfl rfl (Nat.le_of_ble_eq_true rfl) rfl rfl c7_X5_refuse (by decide) (by simp only [List.length_set]) ?_
    exact E_iret rfl rfl, by
    refine Ef.in (md := mX6_row) (L := [some (.ref 65), some (.int a1), some (.int a2), some (.int a3), none]) rfl (Nat.le_of_ble_eq_true rfl) rfl ?_
    refine E_aload_n rfl rfl ?_
    refine E_iload_n rfl rfl ?_
    have e3 : Ev ab_Z0 1 131 [.ref 65, .int a1] (w0.set 48 (.inl [0, 0, 0, 0, 0, 0, 1, 0])) (some (.int 1), (w0.set 48 (.inl [0, 0, 0, 0, 0, 0, 1, 0]))) := by
      refine Ef.in (md := mX6_isShelf) (L := [some (.ref 65), some (.int a1)]) rfl (Nat.le_of_ble_eq_true rfl) rfl ?_
      refine E_iload_n rfl rfl ?_
      refine E_if (t := 14) (b := false) rfl rfl ((cn_lt (rfl : (a1).toInt = (a1).toInt) (by decide : (0 : Int32).toInt = 0)).trans (decide_eq_false (by omega))) ?_
      refine E_iload_n rfl rfl ?_
      refine E_bipush (x := 8) rfl (by decide) ?_
      refine E_ic (t := 14) (b := false) rfl rfl ((cn_ge (rfl : (a1).toInt = (a1).toInt) (by decide : (8 : Int32).toInt = 8)).trans (decide_eq_false (by omega))) ?_
      refine E_iconst (x := 1) rfl (by decide) ?_
      refine E_goto (t := 15) rfl rfl ?_
      exact E_iret rfl rfl
    refine E_callV (v := some (.int 1)) (As := [.ref 65, .int a1]) (r0 := []) (cs2 := (w0.set 48 (.inl [0, 0, 0, 0, 0, 0, 1, 0]))) rfl rfl rfl (Nat.le_of_ble_eq_true rfl) rfl rfl e3 (by decide) rfl ?_
    refine E_if (t := 14) (b := true) rfl rfl (by decide) ?_
    refine E_iload_n rfl rfl ?_
    refine E_if (t := 25) (b := true) rfl rfl ((cn_ge (rfl : (a3).toInt = (a3).toInt) (by decide : (0 : Int32).toInt = 0)).trans (decide_eq_true (by omega))) ?_
    refine E_iload_n rfl rfl ?_
    refine E_if (t := 34) (b := true) rfl rfl ((cn_lt (rfl : (a2).toInt = (a2).toInt) (by decide : (0 : Int32).toInt = 0)).trans (decide_eq_true (by omega))) ?_
    refine E_aload_n rfl rfl ?_
    refine E_bipush (x := (-6)) rfl (by decide) ?_
    refine E_callV (v := some (.int (-6))) (As := [.ref 65, .int (-6)]) (r0 := []) (cs2 := ((w0.set 48 (.inl [0, 0, 0, 0, 0, 0, 1, 0])).set 66 (.inl [0, 0, 0, 0, 0, 0, 1, 0]))) rfl rfl rfl (Nat.le_of_ble_eq_true rfl) rfl rfl c9_X6_no (by decide) (by simp only [List.length_set]) ?_
    exact E_iret rfl rfl, (by simp only [List.length_set]; rfl), (by simp only [List.length_set]; rfl), ((ab_szs rfl).trans ((ab_szs rfl).trans rfl)), fun _ => rfl⟩
theorem f_row_4 (a2 a3 : Int32) (ha2l : (0 : Int) ≤ a2.toInt) (ha2h : a2.toInt ≤ 3) (ha3l : (0 : Int) ≤ a3.toInt) (ha3h : a3.toInt ≤ 160) : p1_P 3 76 2 135 [.ref 0, .int 0, .int a2, .int a3] [.ref 65, .int 0, .int a2, .int a3] :=
  ⟨1, ((w0.set 49 (.inr (.inr (.inr (3, [.ref 50, .int (100 + a2), .int 0]))))).set 49 (.inr (.inr (.inr (3, [.ref 50, .int (100 + a2), .int a3]))))), (((((w0.set 49 (.inr (.inr (.inr (3, [.ref 50, .int (100 + a2), .int 0]))))).set 49 (.inr (.inr (.inr (3, [.ref 50, .int (100 + a2), .int a3]))))).set 76 (.inl [1, 0, 0, 0, 0, 0, 0, 0])).set 77 (.inl [a2, 0, 0, 0, 0, 0, 0, 0])).set 78 (.inl [a3, 0, 0, 0, 0, 0, 0, 0])), by
    refine Ef.in (md := mX5_row) (L := [some (.ref 0), some (.int 0), some (.int a2), some (.int a3)]) rfl (Nat.le_of_ble_eq_true rfl) rfl ?_
    refine E_iload_n rfl rfl ?_
    refine E_callS (v := some (.int 1)) (As := [.int 0]) (r0 := []) (cs2 := w0) rfl rfl rfl (Nat.le_of_ble_eq_true rfl) rfl c10_X5_isShelf (by decide) rfl ?_
    refine E_if (t := 13) (b := true) rfl rfl (by decide) ?_
    refine E_iload_n rfl rfl ?_
    refine E_if (t := 23) (b := true) rfl rfl ((cn_ge (rfl : (a3).toInt = (a3).toInt) (by decide : (0 : Int32).toInt = 0)).trans (decide_eq_true (by omega))) ?_
    refine E_iload_n rfl rfl ?_
    refine E_if (t := 32) (b := false) rfl rfl ((cn_lt (rfl : (a2).toInt = (a2).toInt) (by decide : (0 : Int32).toInt = 0)).trans (decide_eq_false (by omega))) ?_
    refine E_iload_n rfl rfl ?_
    refine E_iconst (x := 3) rfl (by decide) ?_
    refine E_ic (t := 39) (b := true) rfl rfl ((cn_le (rfl : (a2).toInt = (a2).toInt) (by decide : (3 : Int32).toInt = 3)).trans (decide_eq_true (by omega))) ?_
    refine E_iload_n rfl rfl ?_
    refine E_sipush (x := 160) rfl (by decide) ?_
    refine E_ic (t := 53) (b := true) rfl rfl ((cn_le (rfl : (a3).toInt = (a3).toInt) (by decide : (160 : Int32).toInt = 160)).trans (decide_eq_true (by omega))) ?_
    refine E_aload_n rfl rfl ?_
    refine E_getfield (v := .ref 31) rfl rfl rfl (by decide) rfl ?_
    refine E_iload_n rfl rfl ?_
    refine E_aaload (b := 49) (j := 0) rfl rfl (by decide) (by decide) rfl ?_
    refine E_iload_n rfl rfl ?_
    refine E_iload_n rfl rfl ?_
    have e20 : Ev ab_Z0 2 30 [.ref 49, .int a2, .int a3] w0 (none, ((w0.set 49 (.inr (.inr (.inr (3, [.ref 50, .int (100 + a2), .int 0]))))).set 49 (.inr (.inr (.inr (3, [.ref 50, .int (100 + a2), .int a3])))))) := by
      refine Ef.in (md := mX3_holdRow) (L := [some (.ref 49), some (.int a2), some (.int a3)]) rfl (Nat.le_of_ble_eq_true rfl) rfl ?_
      refine E_aload_n rfl rfl ?_
      refine E_getfield (v := .ref 50) rfl rfl rfl (by decide) rfl ?_
      refine E_lconst (x := 0) rfl (by decide) ?_
      refine E_callS (v := none) (As := [.ref 50, .long 0]) (r0 := []) (cs2 := w0) rfl rfl rfl (Nat.le_of_ble_eq_true rfl) rfl c11_J7_fill_d0a16 (by decide) rfl ?_
      refine E_aload_n rfl rfl ?_
      refine E_bipush (x := 100) rfl (by decide) ?_
      refine E_iload_n rfl rfl ?_
      refine E_iadd (z := (100 + a2)) rfl rfl ?_
      refine E_putfield (cs2 := (w0.set 49 (.inr (.inr (.inr (3, [.ref 50, .int (100 + a2), .int 0])))))) rfl rfl rfl (by decide) (Nat.le_of_ble_eq_true rfl) rfl rfl rfl rfl ?_
      refine E_aload_n rfl rfl ?_
      refine E_iload_n rfl rfl ?_
      refine E_putfield (cs2 := ((w0.set 49 (.inr (.inr (.inr (3, [.ref 50, .int (100 + a2), .int 0]))))).set 49 (.inr (.inr (.inr (3, [.ref 50, .int (100 + a2), .int a3])))))) rfl rfl rfl (by decide) (Nat.le_of_ble_eq_true rfl) rfl rfl rfl rfl ?_
      exact E_vret rfl rfl
    refine E_callV (v := none) (As := [.ref 49, .int a2, .int a3]) (r0 := []) (cs2 := ((w0.set 49 (.inr (.inr (.inr (3, [.ref 50, .int (100 + a2), .int 0]))))).set 49 (.inr (.inr (.inr (3, [.ref 50, .int (100 + a2), .int a3])))))) rfl rfl rfl (Nat.le_of_ble_eq_true rfl) rfl rfl e20 (by decide) (by simp only [List.length_set]) ?_
    refine E_iconst (x := 1) rfl (by decide) ?_
    exact E_iret rfl rfl, by
    refine Ef.in (md := mX6_row) (L := [some (.ref 65), some (.int 0), some (.int a2), some (.int a3), none]) rfl (Nat.le_of_ble_eq_true rfl) rfl ?_
    refine E_aload_n rfl rfl ?_
    refine E_iload_n rfl rfl ?_
    have e3 : Ev ab_Z0 1 131 [.ref 65, .int 0] ((w0.set 49 (.inr (.inr (.inr (3, [.ref 50, .int (100 + a2), .int 0]))))).set 49 (.inr (.inr (.inr (3, [.ref 50, .int (100 + a2), .int a3]))))) (some (.int 1), ((w0.set 49 (.inr (.inr (.inr (3, [.ref 50, .int (100 + a2), .int 0]))))).set 49 (.inr (.inr (.inr (3, [.ref 50, .int (100 + a2), .int a3])))))) := by
      refine Ef.in (md := mX6_isShelf) (L := [some (.ref 65), some (.int 0)]) rfl (Nat.le_of_ble_eq_true rfl) rfl ?_
      refine E_iload_n rfl rfl ?_
      refine E_if (t := 14) (b := false) rfl rfl (by decide) ?_
      refine E_iload_n rfl rfl ?_
      refine E_bipush (x := 8) rfl (by decide) ?_
      refine E_ic (t := 14) (b := false) rfl rfl (by decide) ?_
      refine E_iconst (x := 1) rfl (by decide) ?_
      refine E_goto (t := 15) rfl rfl ?_
      exact E_iret rfl rfl
    refine E_callV (v := some (.int 1)) (As := [.ref 65, .int 0]) (r0 := []) (cs2 := ((w0.set 49 (.inr (.inr (.inr (3, [.ref 50, .int (100 + a2), .int 0]))))).set 49 (.inr (.inr (.inr (3, [.ref 50, .int (100 + a2), .int a3])))))) rfl rfl rfl (Nat.le_of_ble_eq_true rfl) rfl rfl e3 (by decide) rfl ?_
    refine E_if (t := 14) (b := true) rfl rfl (by decide) ?_
    refine E_iload_n rfl rfl ?_
    refine E_if (t := 25) (b := true) rfl rfl ((cn_ge (rfl : (a3).toInt = (a3).toInt) (by decide : (0 : Int32).toInt = 0)).trans (decide_eq_true (by omega))) ?_
    refine E_iload_n rfl rfl ?_
    refine E_if (t := 34) (b := false) rfl rfl ((cn_lt (rfl : (a2).toInt = (a2).toInt) (by decide : (0 : Int32).toInt = 0)).trans (decide_eq_false (by omega))) ?_
    refine E_iload_n rfl rfl ?_
    refine E_iconst (x := 3) rfl (by decide) ?_
    refine E_ic (t := 41) (b := true) rfl rfl ((cn_le (rfl : (a2).toInt = (a2).toInt) (by decide : (3 : Int32).toInt = 3)).trans (decide_eq_true (by omega))) ?_
    refine E_iload_n rfl rfl ?_
    refine E_sipush (x := 160) rfl (by decide) ?_
    refine E_ic (t := 55) (b := true) rfl rfl ((cn_le (rfl : (a3).toInt = (a3).toInt) (by decide : (160 : Int32).toInt = 160)).trans (decide_eq_true (by omega))) ?_
    refine E_aload_n rfl rfl ?_
    refine E_getfield (v := .ref 76) rfl rfl rfl (by decide) rfl ?_
    refine E_iload_n rfl rfl ?_
    refine E_iconst (x := 1) rfl (by decide) ?_
    refine E_iastore (j := 0) (cs2 := (((w0.set 49 (.inr (.inr (.inr (3, [.ref 50, .int (100 + a2), .int 0]))))).set 49 (.inr (.inr (.inr (3, [.ref 50, .int (100 + a2), .int a3]))))).set 76 (.inl [1, 0, 0, 0, 0, 0, 0, 0]))) rfl rfl (by decide) (by decide) (Nat.le_of_ble_eq_true rfl) rfl ?_
    refine E_aload_n rfl rfl ?_
    refine E_getfield (v := .ref 77) rfl rfl rfl (by decide) rfl ?_
    refine E_iload_n rfl rfl ?_
    refine E_iload_n rfl rfl ?_
    refine E_iastore (j := 0) (cs2 := ((((w0.set 49 (.inr (.inr (.inr (3, [.ref 50, .int (100 + a2), .int 0]))))).set 49 (.inr (.inr (.inr (3, [.ref 50, .int (100 + a2), .int a3]))))).set 76 (.inl [1, 0, 0, 0, 0, 0, 0, 0])).set 77 (.inl [a2, 0, 0, 0, 0, 0, 0, 0]))) rfl rfl (by decide) (by decide) (Nat.le_of_ble_eq_true rfl) rfl ?_
    refine E_aload_n rfl rfl ?_
    refine E_getfield (v := .ref 78) rfl rfl rfl (by decide) rfl ?_
    refine E_iload_n rfl rfl ?_
    refine E_iload_n rfl rfl ?_
    refine E_iastore (j := 0) (cs2 := (((((w0.set 49 (.inr (.inr (.inr (3, [.ref 50, .int (100 + a2), .int 0]))))).set 49 (.inr (.inr (.inr (3, [.ref 50, .int (100 + a2), .int a3]))))).set 76 (.inl [1, 0, 0, 0, 0, 0, 0, 0])).set 77 (.inl [a2, 0, 0, 0, 0, 0, 0, 0])).set 78 (.inl [a3, 0, 0, 0, 0, 0, 0, 0]))) rfl rfl (by decide) (by decide) (Nat.le_of_ble_eq_true rfl) rfl ?_
    refine E_iconst (x := 0) rfl (by decide) ?_
    refine E_istore (L2 := [some (.ref 65), some (.int 0), some (.int a2), some (.int a3), some (.int 0)]) rfl rfl ?_
    refine (p1_mrow (sv := 0) (by decide) rfl rfl rfl ?_ 160 0 rfl)
    refine E_iconst (x := 1) rfl (by decide) ?_
    exact E_iret rfl rfl, (by simp only [List.length_set]; rfl), (by simp only [List.length_set]; rfl), ((ab_szs rfl).trans ((ab_szs rfl).trans ((ab_szs rfl).trans ((ab_szs rfl).trans ((ab_szs rfl).trans rfl))))), fun _ => rfl⟩
theorem f_row_5 (a2 a3 : Int32) (ha2l : (0 : Int) ≤ a2.toInt) (ha2h : a2.toInt ≤ 3) (ha3l : (0 : Int) ≤ a3.toInt) (ha3h : a3.toInt ≤ 160) : p1_P 3 76 2 135 [.ref 0, .int 1, .int a2, .int a3] [.ref 65, .int 1, .int a2, .int a3] :=
  ⟨1, ((w0.set 51 (.inr (.inr (.inr (3, [.ref 52, .int (100 + a2), .int 0]))))).set 51 (.inr (.inr (.inr (3, [.ref 52, .int (100 + a2), .int a3]))))), (((((w0.set 51 (.inr (.inr (.inr (3, [.ref 52, .int (100 + a2), .int 0]))))).set 51 (.inr (.inr (.inr (3, [.ref 52, .int (100 + a2), .int a3]))))).set 76 (.inl [0, 1, 0, 0, 0, 0, 0, 0])).set 77 (.inl [0, a2, 0, 0, 0, 0, 0, 0])).set 78 (.inl [0, a3, 0, 0, 0, 0, 0, 0])), by
    refine Ef.in (md := mX5_row) (L := [some (.ref 0), some (.int 1), some (.int a2), some (.int a3)]) rfl (Nat.le_of_ble_eq_true rfl) rfl ?_
    refine E_iload_n rfl rfl ?_
    refine E_callS (v := some (.int 1)) (As := [.int 1]) (r0 := []) (cs2 := w0) rfl rfl rfl (Nat.le_of_ble_eq_true rfl) rfl c12_X5_isShelf (by decide) rfl ?_
    refine E_if (t := 13) (b := true) rfl rfl (by decide) ?_
    refine E_iload_n rfl rfl ?_
    refine E_if (t := 23) (b := true) rfl rfl ((cn_ge (rfl : (a3).toInt = (a3).toInt) (by decide : (0 : Int32).toInt = 0)).trans (decide_eq_true (by omega))) ?_
    refine E_iload_n rfl rfl ?_
    refine E_if (t := 32) (b := false) rfl rfl ((cn_lt (rfl : (a2).toInt = (a2).toInt) (by decide : (0 : Int32).toInt = 0)).trans (decide_eq_false (by omega))) ?_
    refine E_iload_n rfl rfl ?_
    refine E_iconst (x := 3) rfl (by decide) ?_
    refine E_ic (t := 39) (b := true) rfl rfl ((cn_le (rfl : (a2).toInt = (a2).toInt) (by decide : (3 : Int32).toInt = 3)).trans (decide_eq_true (by omega))) ?_
    refine E_iload_n rfl rfl ?_
    refine E_sipush (x := 160) rfl (by decide) ?_
    refine E_ic (t := 53) (b := true) rfl rfl ((cn_le (rfl : (a3).toInt = (a3).toInt) (by decide : (160 : Int32).toInt = 160)).trans (decide_eq_true (by omega))) ?_
    refine E_aload_n rfl rfl ?_
    refine E_getfield (v := .ref 31) rfl rfl rfl (by decide) rfl ?_
    refine E_iload_n rfl rfl ?_
    refine E_aaload (b := 51) (j := 1) rfl rfl (by decide) (by decide) rfl ?_
    refine E_iload_n rfl rfl ?_
    refine E_iload_n rfl rfl ?_
    have e20 : Ev ab_Z0 2 30 [.ref 51, .int a2, .int a3] w0 (none, ((w0.set 51 (.inr (.inr (.inr (3, [.ref 52, .int (100 + a2), .int 0]))))).set 51 (.inr (.inr (.inr (3, [.ref 52, .int (100 + a2), .int a3])))))) := by
      refine Ef.in (md := mX3_holdRow) (L := [some (.ref 51), some (.int a2), some (.int a3)]) rfl (Nat.le_of_ble_eq_true rfl) rfl ?_
      refine E_aload_n rfl rfl ?_
      refine E_getfield (v := .ref 52) rfl rfl rfl (by decide) rfl ?_
      refine E_lconst (x := 0) rfl (by decide) ?_
      refine E_callS (v := none) (As := [.ref 52, .long 0]) (r0 := []) (cs2 := w0) rfl rfl rfl (Nat.le_of_ble_eq_true rfl) rfl c13_J7_fill_d0a16 (by decide) rfl ?_
      refine E_aload_n rfl rfl ?_
      refine E_bipush (x := 100) rfl (by decide) ?_
      refine E_iload_n rfl rfl ?_
      refine E_iadd (z := (100 + a2)) rfl rfl ?_
      refine E_putfield (cs2 := (w0.set 51 (.inr (.inr (.inr (3, [.ref 52, .int (100 + a2), .int 0])))))) rfl rfl rfl (by decide) (Nat.le_of_ble_eq_true rfl) rfl rfl rfl rfl ?_
      refine E_aload_n rfl rfl ?_
      refine E_iload_n rfl rfl ?_
      refine E_putfield (cs2 := ((w0.set 51 (.inr (.inr (.inr (3, [.ref 52, .int (100 + a2), .int 0]))))).set 51 (.inr (.inr (.inr (3, [.ref 52, .int (100 + a2), .int a3])))))) rfl rfl rfl (by decide) (Nat.le_of_ble_eq_true rfl) rfl rfl rfl rfl ?_
      exact E_vret rfl rfl
    refine E_callV (v := none) (As := [.ref 51, .int a2, .int a3]) (r0 := []) (cs2 := ((w0.set 51 (.inr (.inr (.inr (3, [.ref 52, .int (100 + a2), .int 0]))))).set 51 (.inr (.inr (.inr (3, [.ref 52, .int (100 + a2), .int a3])))))) rfl rfl rfl (Nat.le_of_ble_eq_true rfl) rfl rfl e20 (by decide) (by simp only [List.length_set]) ?_
    refine E_iconst (x := 1) rfl (by decide) ?_
    exact E_iret rfl rfl, by
    refine Ef.in (md := mX6_row) (L := [some (.ref 65), some (.int 1), some (.int a2), some (.int a3), none]) rfl (Nat.le_of_ble_eq_true rfl) rfl ?_
    refine E_aload_n rfl rfl ?_
    refine E_iload_n rfl rfl ?_
    have e3 : Ev ab_Z0 1 131 [.ref 65, .int 1] ((w0.set 51 (.inr (.inr (.inr (3, [.ref 52, .int (100 + a2), .int 0]))))).set 51 (.inr (.inr (.inr (3, [.ref 52, .int (100 + a2), .int a3]))))) (some (.int 1), ((w0.set 51 (.inr (.inr (.inr (3, [.ref 52, .int (100 + a2), .int 0]))))).set 51 (.inr (.inr (.inr (3, [.ref 52, .int (100 + a2), .int a3])))))) := by
      refine Ef.in (md := mX6_isShelf) (L := [some (.ref 65), some (.int 1)]) rfl (Nat.le_of_ble_eq_true rfl) rfl ?_
      refine E_iload_n rfl rfl ?_
      refine E_if (t := 14) (b := false) rfl rfl (by decide) ?_
      refine E_iload_n rfl rfl ?_
      refine E_bipush (x := 8) rfl (by decide) ?_
      refine E_ic (t := 14) (b := false) rfl rfl (by decide) ?_
      refine E_iconst (x := 1) rfl (by decide) ?_
      refine E_goto (t := 15) rfl rfl ?_
      exact E_iret rfl rfl
    refine E_callV (v := some (.int 1)) (As := [.ref 65, .int 1]) (r0 := []) (cs2 := ((w0.set 51 (.inr (.inr (.inr (3, [.ref 52, .int (100 + a2), .int 0]))))).set 51 (.inr (.inr (.inr (3, [.ref 52, .int (100 + a2), .int a3])))))) rfl rfl rfl (Nat.le_of_ble_eq_true rfl) rfl rfl e3 (by decide) rfl ?_
    refine E_if (t := 14) (b := true) rfl rfl (by decide) ?_
    refine E_iload_n rfl rfl ?_
    refine E_if (t := 25) (b := true) rfl rfl ((cn_ge (rfl : (a3).toInt = (a3).toInt) (by decide : (0 : Int32).toInt = 0)).trans (decide_eq_true (by omega))) ?_
    refine E_iload_n rfl rfl ?_
    refine E_if (t := 34) (b := false) rfl rfl ((cn_lt (rfl : (a2).toInt = (a2).toInt) (by decide : (0 : Int32).toInt = 0)).trans (decide_eq_false (by omega))) ?_
    refine E_iload_n rfl rfl ?_
    refine E_iconst (x := 3) rfl (by decide) ?_
    refine E_ic (t := 41) (b := true) rfl rfl ((cn_le (rfl : (a2).toInt = (a2).toInt) (by decide : (3 : Int32).toInt = 3)).trans (decide_eq_true (by omega))) ?_
    refine E_iload_n rfl rfl ?_
    refine E_sipush (x := 160) rfl (by decide) ?_
    refine E_ic (t := 55) (b := true) rfl rfl ((cn_le (rfl : (a3).toInt = (a3).toInt) (by decide : (160 : Int32).toInt = 160)).trans (decide_eq_true (by omega))) ?_
    refine E_aload_n rfl rfl ?_
    refine E_getfield (v := .ref 76) rfl rfl rfl (by decide) rfl ?_
    refine E_iload_n rfl rfl ?_
    refine E_iconst (x := 1) rfl (by decide) ?_
    refine E_iastore (j := 1) (cs2 := (((w0.set 51 (.inr (.inr (.inr (3, [.ref 52, .int (100 + a2), .int 0]))))).set 51 (.inr (.inr (.inr (3, [.ref 52, .int (100 + a2), .int a3]))))).set 76 (.inl [0, 1, 0, 0, 0, 0, 0, 0]))) rfl rfl (by decide) (by decide) (Nat.le_of_ble_eq_true rfl) rfl ?_
    refine E_aload_n rfl rfl ?_
    refine E_getfield (v := .ref 77) rfl rfl rfl (by decide) rfl ?_
    refine E_iload_n rfl rfl ?_
    refine E_iload_n rfl rfl ?_
    refine E_iastore (j := 1) (cs2 := ((((w0.set 51 (.inr (.inr (.inr (3, [.ref 52, .int (100 + a2), .int 0]))))).set 51 (.inr (.inr (.inr (3, [.ref 52, .int (100 + a2), .int a3]))))).set 76 (.inl [0, 1, 0, 0, 0, 0, 0, 0])).set 77 (.inl [0, a2, 0, 0, 0, 0, 0, 0]))) rfl rfl (by decide) (by decide) (Nat.le_of_ble_eq_true rfl) rfl ?_
    refine E_aload_n rfl rfl ?_
    refine E_getfield (v := .ref 78) rfl rfl rfl (by decide) rfl ?_
    refine E_iload_n rfl rfl ?_
    refine E_iload_n rfl rfl ?_
    refine E_iastore (j := 1) (cs2 := (((((w0.set 51 (.inr (.inr (.inr (3, [.ref 52, .int (100 + a2), .int 0]))))).set 51 (.inr (.inr (.inr (3, [.ref 52, .int (100 + a2), .int a3]))))).set 76 (.inl [0, 1, 0, 0, 0, 0, 0, 0])).set 77 (.inl [0, a2, 0, 0, 0, 0, 0, 0])).set 78 (.inl [0, a3, 0, 0, 0, 0, 0, 0]))) rfl rfl (by decide) (by decide) (Nat.le_of_ble_eq_true rfl) rfl ?_
    refine E_iconst (x := 0) rfl (by decide) ?_
    refine E_istore (L2 := [some (.ref 65), some (.int 1), some (.int a2), some (.int a3), some (.int 0)]) rfl rfl ?_
    refine (p1_mrow (sv := 1) (by decide) rfl rfl rfl ?_ 160 0 rfl)
    refine E_iconst (x := 1) rfl (by decide) ?_
    exact E_iret rfl rfl, (by simp only [List.length_set]; rfl), (by simp only [List.length_set]; rfl), ((ab_szs rfl).trans ((ab_szs rfl).trans ((ab_szs rfl).trans ((ab_szs rfl).trans ((ab_szs rfl).trans rfl))))), fun _ => rfl⟩
theorem f_row_6 (a2 a3 : Int32) (ha2l : (0 : Int) ≤ a2.toInt) (ha2h : a2.toInt ≤ 3) (ha3l : (0 : Int) ≤ a3.toInt) (ha3h : a3.toInt ≤ 160) : p1_P 3 76 2 135 [.ref 0, .int 2, .int a2, .int a3] [.ref 65, .int 2, .int a2, .int a3] :=
  ⟨1, ((w0.set 53 (.inr (.inr (.inr (3, [.ref 54, .int (100 + a2), .int 0]))))).set 53 (.inr (.inr (.inr (3, [.ref 54, .int (100 + a2), .int a3]))))), (((((w0.set 53 (.inr (.inr (.inr (3, [.ref 54, .int (100 + a2), .int 0]))))).set 53 (.inr (.inr (.inr (3, [.ref 54, .int (100 + a2), .int a3]))))).set 76 (.inl [0, 0, 1, 0, 0, 0, 0, 0])).set 77 (.inl [0, 0, a2, 0, 0, 0, 0, 0])).set 78 (.inl [0, 0, a3, 0, 0, 0, 0, 0])), by
    refine Ef.in (md := mX5_row) (L := [some (.ref 0), some (.int 2), some (.int a2), some (.int a3)]) rfl (Nat.le_of_ble_eq_true rfl) rfl ?_
    refine E_iload_n rfl rfl ?_
    refine E_callS (v := some (.int 1)) (As := [.int 2]) (r0 := []) (cs2 := w0) rfl rfl rfl (Nat.le_of_ble_eq_true rfl) rfl c14_X5_isShelf (by decide) rfl ?_
    refine E_if (t := 13) (b := true) rfl rfl (by decide) ?_
    refine E_iload_n rfl rfl ?_
    refine E_if (t := 23) (b := true) rfl rfl ((cn_ge (rfl : (a3).toInt = (a3).toInt) (by decide : (0 : Int32).toInt = 0)).trans (decide_eq_true (by omega))) ?_
    refine E_iload_n rfl rfl ?_
    refine E_if (t := 32) (b := false) rfl rfl ((cn_lt (rfl : (a2).toInt = (a2).toInt) (by decide : (0 : Int32).toInt = 0)).trans (decide_eq_false (by omega))) ?_
    refine E_iload_n rfl rfl ?_
    refine E_iconst (x := 3) rfl (by decide) ?_
    refine E_ic (t := 39) (b := true) rfl rfl ((cn_le (rfl : (a2).toInt = (a2).toInt) (by decide : (3 : Int32).toInt = 3)).trans (decide_eq_true (by omega))) ?_
    refine E_iload_n rfl rfl ?_
    refine E_sipush (x := 160) rfl (by decide) ?_
    refine E_ic (t := 53) (b := true) rfl rfl ((cn_le (rfl : (a3).toInt = (a3).toInt) (by decide : (160 : Int32).toInt = 160)).trans (decide_eq_true (by omega))) ?_
    refine E_aload_n rfl rfl ?_
    refine E_getfield (v := .ref 31) rfl rfl rfl (by decide) rfl ?_
    refine E_iload_n rfl rfl ?_
    refine E_aaload (b := 53) (j := 2) rfl rfl (by decide) (by decide) rfl ?_
    refine E_iload_n rfl rfl ?_
    refine E_iload_n rfl rfl ?_
    have e20 : Ev ab_Z0 2 30 [.ref 53, .int a2, .int a3] w0 (none, ((w0.set 53 (.inr (.inr (.inr (3, [.ref 54, .int (100 + a2), .int 0]))))).set 53 (.inr (.inr (.inr (3, [.ref 54, .int (100 + a2), .int a3])))))) := by
      refine Ef.in (md := mX3_holdRow) (L := [some (.ref 53), some (.int a2), some (.int a3)]) rfl (Nat.le_of_ble_eq_true rfl) rfl ?_
      refine E_aload_n rfl rfl ?_
      refine E_getfield (v := .ref 54) rfl rfl rfl (by decide) rfl ?_
      refine E_lconst (x := 0) rfl (by decide) ?_
      refine E_callS (v := none) (As := [.ref 54, .long 0]) (r0 := []) (cs2 := w0) rfl rfl rfl (Nat.le_of_ble_eq_true rfl) rfl c15_J7_fill_d0a16 (by decide) rfl ?_
      refine E_aload_n rfl rfl ?_
      refine E_bipush (x := 100) rfl (by decide) ?_
      refine E_iload_n rfl rfl ?_
      refine E_iadd (z := (100 + a2)) rfl rfl ?_
      refine E_putfield (cs2 := (w0.set 53 (.inr (.inr (.inr (3, [.ref 54, .int (100 + a2), .int 0])))))) rfl rfl rfl (by decide) (Nat.le_of_ble_eq_true rfl) rfl rfl rfl rfl ?_
      refine E_aload_n rfl rfl ?_
      refine E_iload_n rfl rfl ?_
      refine E_putfield (cs2 := ((w0.set 53 (.inr (.inr (.inr (3, [.ref 54, .int (100 + a2), .int 0]))))).set 53 (.inr (.inr (.inr (3, [.ref 54, .int (100 + a2), .int a3])))))) rfl rfl rfl (by decide) (Nat.le_of_ble_eq_true rfl) rfl rfl rfl rfl ?_
      exact E_vret rfl rfl
    refine E_callV (v := none) (As := [.ref 53, .int a2, .int a3]) (r0 := []) (cs2 := ((w0.set 53 (.inr (.inr (.inr (3, [.ref 54, .int (100 + a2), .int 0]))))).set 53 (.inr (.inr (.inr (3, [.ref 54, .int (100 + a2), .int a3])))))) rfl rfl rfl (Nat.le_of_ble_eq_true rfl) rfl rfl e20 (by decide) (by simp only [List.length_set]) ?_
    refine E_iconst (x := 1) rfl (by decide) ?_
    exact E_iret rfl rfl, by
    refine Ef.in (md := mX6_row) (L := [some (.ref 65), some (.int 2), some (.int a2), some (.int a3), none]) rfl (Nat.le_of_ble_eq_true rfl) rfl ?_
    refine E_aload_n rfl rfl ?_
    refine E_iload_n rfl rfl ?_
    have e3 : Ev ab_Z0 1 131 [.ref 65, .int 2] ((w0.set 53 (.inr (.inr (.inr (3, [.ref 54, .int (100 + a2), .int 0]))))).set 53 (.inr (.inr (.inr (3, [.ref 54, .int (100 + a2), .int a3]))))) (some (.int 1), ((w0.set 53 (.inr (.inr (.inr (3, [.ref 54, .int (100 + a2), .int 0]))))).set 53 (.inr (.inr (.inr (3, [.ref 54, .int (100 + a2), .int a3])))))) := by
      refine Ef.in (md := mX6_isShelf) (L := [some (.ref 65), some (.int 2)]) rfl (Nat.le_of_ble_eq_true rfl) rfl ?_
      refine E_iload_n rfl rfl ?_
      refine E_if (t := 14) (b := false) rfl rfl (by decide) ?_
      refine E_iload_n rfl rfl ?_
      refine E_bipush (x := 8) rfl (by decide) ?_
      refine E_ic (t := 14) (b := false) rfl rfl (by decide) ?_
      refine E_iconst (x := 1) rfl (by decide) ?_
      refine E_goto (t := 15) rfl rfl ?_
      exact E_iret rfl rfl
    refine E_callV (v := some (.int 1)) (As := [.ref 65, .int 2]) (r0 := []) (cs2 := ((w0.set 53 (.inr (.inr (.inr (3, [.ref 54, .int (100 + a2), .int 0]))))).set 53 (.inr (.inr (.inr (3, [.ref 54, .int (100 + a2), .int a3])))))) rfl rfl rfl (Nat.le_of_ble_eq_true rfl) rfl rfl e3 (by decide) rfl ?_
    refine E_if (t := 14) (b := true) rfl rfl (by decide) ?_
    refine E_iload_n rfl rfl ?_
    refine E_if (t := 25) (b := true) rfl rfl ((cn_ge (rfl : (a3).toInt = (a3).toInt) (by decide : (0 : Int32).toInt = 0)).trans (decide_eq_true (by omega))) ?_
    refine E_iload_n rfl rfl ?_
    refine E_if (t := 34) (b := false) rfl rfl ((cn_lt (rfl : (a2).toInt = (a2).toInt) (by decide : (0 : Int32).toInt = 0)).trans (decide_eq_false (by omega))) ?_
    refine E_iload_n rfl rfl ?_
    refine E_iconst (x := 3) rfl (by decide) ?_
    refine E_ic (t := 41) (b := true) rfl rfl ((cn_le (rfl : (a2).toInt = (a2).toInt) (by decide : (3 : Int32).toInt = 3)).trans (decide_eq_true (by omega))) ?_
    refine E_iload_n rfl rfl ?_
    refine E_sipush (x := 160) rfl (by decide) ?_
    refine E_ic (t := 55) (b := true) rfl rfl ((cn_le (rfl : (a3).toInt = (a3).toInt) (by decide : (160 : Int32).toInt = 160)).trans (decide_eq_true (by omega))) ?_
    refine E_aload_n rfl rfl ?_
    refine E_getfield (v := .ref 76) rfl rfl rfl (by decide) rfl ?_
    refine E_iload_n rfl rfl ?_
    refine E_iconst (x := 1) rfl (by decide) ?_
    refine E_iastore (j := 2) (cs2 := (((w0.set 53 (.inr (.inr (.inr (3, [.ref 54, .int (100 + a2), .int 0]))))).set 53 (.inr (.inr (.inr (3, [.ref 54, .int (100 + a2), .int a3]))))).set 76 (.inl [0, 0, 1, 0, 0, 0, 0, 0]))) rfl rfl (by decide) (by decide) (Nat.le_of_ble_eq_true rfl) rfl ?_
    refine E_aload_n rfl rfl ?_
    refine E_getfield (v := .ref 77) rfl rfl rfl (by decide) rfl ?_
    refine E_iload_n rfl rfl ?_
    refine E_iload_n rfl rfl ?_
    refine E_iastore (j := 2) (cs2 := ((((w0.set 53 (.inr (.inr (.inr (3, [.ref 54, .int (100 + a2), .int 0]))))).set 53 (.inr (.inr (.inr (3, [.ref 54, .int (100 + a2), .int a3]))))).set 76 (.inl [0, 0, 1, 0, 0, 0, 0, 0])).set 77 (.inl [0, 0, a2, 0, 0, 0, 0, 0]))) rfl rfl (by decide) (by decide) (Nat.le_of_ble_eq_true rfl) rfl ?_
    refine E_aload_n rfl rfl ?_
    refine E_getfield (v := .ref 78) rfl rfl rfl (by decide) rfl ?_
    refine E_iload_n rfl rfl ?_
    refine E_iload_n rfl rfl ?_
    refine E_iastore (j := 2) (cs2 := (((((w0.set 53 (.inr (.inr (.inr (3, [.ref 54, .int (100 + a2), .int 0]))))).set 53 (.inr (.inr (.inr (3, [.ref 54, .int (100 + a2), .int a3]))))).set 76 (.inl [0, 0, 1, 0, 0, 0, 0, 0])).set 77 (.inl [0, 0, a2, 0, 0, 0, 0, 0])).set 78 (.inl [0, 0, a3, 0, 0, 0, 0, 0]))) rfl rfl (by decide) (by decide) (Nat.le_of_ble_eq_true rfl) rfl ?_
    refine E_iconst (x := 0) rfl (by decide) ?_
    refine E_istore (L2 := [some (.ref 65), some (.int 2), some (.int a2), some (.int a3), some (.int 0)]) rfl rfl ?_
    refine (p1_mrow (sv := 2) (by decide) rfl rfl rfl ?_ 160 0 rfl)
    refine E_iconst (x := 1) rfl (by decide) ?_
    exact E_iret rfl rfl, (by simp only [List.length_set]; rfl), (by simp only [List.length_set]; rfl), ((ab_szs rfl).trans ((ab_szs rfl).trans ((ab_szs rfl).trans ((ab_szs rfl).trans ((ab_szs rfl).trans rfl))))), fun _ => rfl⟩
theorem f_row_7 (a2 a3 : Int32) (ha2l : (0 : Int) ≤ a2.toInt) (ha2h : a2.toInt ≤ 3) (ha3l : (0 : Int) ≤ a3.toInt) (ha3h : a3.toInt ≤ 160) : p1_P 3 76 2 135 [.ref 0, .int 3, .int a2, .int a3] [.ref 65, .int 3, .int a2, .int a3] :=
  ⟨1, ((w0.set 55 (.inr (.inr (.inr (3, [.ref 56, .int (100 + a2), .int 0]))))).set 55 (.inr (.inr (.inr (3, [.ref 56, .int (100 + a2), .int a3]))))), (((((w0.set 55 (.inr (.inr (.inr (3, [.ref 56, .int (100 + a2), .int 0]))))).set 55 (.inr (.inr (.inr (3, [.ref 56, .int (100 + a2), .int a3]))))).set 76 (.inl [0, 0, 0, 1, 0, 0, 0, 0])).set 77 (.inl [0, 0, 0, a2, 0, 0, 0, 0])).set 78 (.inl [0, 0, 0, a3, 0, 0, 0, 0])), by
    refine Ef.in (md := mX5_row) (L := [some (.ref 0), some (.int 3), some (.int a2), some (.int a3)]) rfl (Nat.le_of_ble_eq_true rfl) rfl ?_
    refine E_iload_n rfl rfl ?_
    refine E_callS (v := some (.int 1)) (As := [.int 3]) (r0 := []) (cs2 := w0) rfl rfl rfl (Nat.le_of_ble_eq_true rfl) rfl c16_X5_isShelf (by decide) rfl ?_
    refine E_if (t := 13) (b := true) rfl rfl (by decide) ?_
    refine E_iload_n rfl rfl ?_
    refine E_if (t := 23) (b := true) rfl rfl ((cn_ge (rfl : (a3).toInt = (a3).toInt) (by decide : (0 : Int32).toInt = 0)).trans (decide_eq_true (by omega))) ?_
    refine E_iload_n rfl rfl ?_
    refine E_if (t := 32) (b := false) rfl rfl ((cn_lt (rfl : (a2).toInt = (a2).toInt) (by decide : (0 : Int32).toInt = 0)).trans (decide_eq_false (by omega))) ?_
    refine E_iload_n rfl rfl ?_
    refine E_iconst (x := 3) rfl (by decide) ?_
    refine E_ic (t := 39) (b := true) rfl rfl ((cn_le (rfl : (a2).toInt = (a2).toInt) (by decide : (3 : Int32).toInt = 3)).trans (decide_eq_true (by omega))) ?_
    refine E_iload_n rfl rfl ?_
    refine E_sipush (x := 160) rfl (by decide) ?_
    refine E_ic (t := 53) (b := true) rfl rfl ((cn_le (rfl : (a3).toInt = (a3).toInt) (by decide : (160 : Int32).toInt = 160)).trans (decide_eq_true (by omega))) ?_
    refine E_aload_n rfl rfl ?_
    refine E_getfield (v := .ref 31) rfl rfl rfl (by decide) rfl ?_
    refine E_iload_n rfl rfl ?_
    refine E_aaload (b := 55) (j := 3) rfl rfl (by decide) (by decide) rfl ?_
    refine E_iload_n rfl rfl ?_
    refine E_iload_n rfl rfl ?_
    have e20 : Ev ab_Z0 2 30 [.ref 55, .int a2, .int a3] w0 (none, ((w0.set 55 (.inr (.inr (.inr (3, [.ref 56, .int (100 + a2), .int 0]))))).set 55 (.inr (.inr (.inr (3, [.ref 56, .int (100 + a2), .int a3])))))) := by
      refine Ef.in (md := mX3_holdRow) (L := [some (.ref 55), some (.int a2), some (.int a3)]) rfl (Nat.le_of_ble_eq_true rfl) rfl ?_
      refine E_aload_n rfl rfl ?_
      refine E_getfield (v := .ref 56) rfl rfl rfl (by decide) rfl ?_
      refine E_lconst (x := 0) rfl (by decide) ?_
      refine E_callS (v := none) (As := [.ref 56, .long 0]) (r0 := []) (cs2 := w0) rfl rfl rfl (Nat.le_of_ble_eq_true rfl) rfl c17_J7_fill_d0a16 (by decide) rfl ?_
      refine E_aload_n rfl rfl ?_
      refine E_bipush (x := 100) rfl (by decide) ?_
      refine E_iload_n rfl rfl ?_
      refine E_iadd (z := (100 + a2)) rfl rfl ?_
      refine E_putfield (cs2 := (w0.set 55 (.inr (.inr (.inr (3, [.ref 56, .int (100 + a2), .int 0])))))) rfl rfl rfl (by decide) (Nat.le_of_ble_eq_true rfl) rfl rfl rfl rfl ?_
      refine E_aload_n rfl rfl ?_
      refine E_iload_n rfl rfl ?_
      refine E_putfield (cs2 := ((w0.set 55 (.inr (.inr (.inr (3, [.ref 56, .int (100 + a2), .int 0]))))).set 55 (.inr (.inr (.inr (3, [.ref 56, .int (100 + a2), .int a3])))))) rfl rfl rfl (by decide) (Nat.le_of_ble_eq_true rfl) rfl rfl rfl rfl ?_
      exact E_vret rfl rfl
    refine E_callV (v := none) (As := [.ref 55, .int a2, .int a3]) (r0 := []) (cs2 := ((w0.set 55 (.inr (.inr (.inr (3, [.ref 56, .int (100 + a2), .int 0]))))).set 55 (.inr (.inr (.inr (3, [.ref 56, .int (100 + a2), .int a3])))))) rfl rfl rfl (Nat.le_of_ble_eq_true rfl) rfl rfl e20 (by decide) (by simp only [List.length_set]) ?_
    refine E_iconst (x := 1) rfl (by decide) ?_
    exact E_iret rfl rfl, by
    refine Ef.in (md := mX6_row) (L := [some (.ref 65), some (.int 3), some (.int a2), some (.int a3), none]) rfl (Nat.le_of_ble_eq_true rfl) rfl ?_
    refine E_aload_n rfl rfl ?_
    refine E_iload_n rfl rfl ?_
    have e3 : Ev ab_Z0 1 131 [.ref 65, .int 3] ((w0.set 55 (.inr (.inr (.inr (3, [.ref 56, .int (100 + a2), .int 0]))))).set 55 (.inr (.inr (.inr (3, [.ref 56, .int (100 + a2), .int a3]))))) (some (.int 1), ((w0.set 55 (.inr (.inr (.inr (3, [.ref 56, .int (100 + a2), .int 0]))))).set 55 (.inr (.inr (.inr (3, [.ref 56, .int (100 + a2), .int a3])))))) := by
      refine Ef.in (md := mX6_isShelf) (L := [some (.ref 65), some (.int 3)]) rfl (Nat.le_of_ble_eq_true rfl) rfl ?_
      refine E_iload_n rfl rfl ?_
      refine E_if (t := 14) (b := false) rfl rfl (by decide) ?_
      refine E_iload_n rfl rfl ?_
      refine E_bipush (x := 8) rfl (by decide) ?_
      refine E_ic (t := 14) (b := false) rfl rfl (by decide) ?_
      refine E_iconst (x := 1) rfl (by decide) ?_
      refine E_goto (t := 15) rfl rfl ?_
      exact E_iret rfl rfl
    refine E_callV (v := some (.int 1)) (As := [.ref 65, .int 3]) (r0 := []) (cs2 := ((w0.set 55 (.inr (.inr (.inr (3, [.ref 56, .int (100 + a2), .int 0]))))).set 55 (.inr (.inr (.inr (3, [.ref 56, .int (100 + a2), .int a3])))))) rfl rfl rfl (Nat.le_of_ble_eq_true rfl) rfl rfl e3 (by decide) rfl ?_
    refine E_if (t := 14) (b := true) rfl rfl (by decide) ?_
    refine E_iload_n rfl rfl ?_
    refine E_if (t := 25) (b := true) rfl rfl ((cn_ge (rfl : (a3).toInt = (a3).toInt) (by decide : (0 : Int32).toInt = 0)).trans (decide_eq_true (by omega))) ?_
    refine E_iload_n rfl rfl ?_
    refine E_if (t := 34) (b := false) rfl rfl ((cn_lt (rfl : (a2).toInt = (a2).toInt) (by decide : (0 : Int32).toInt = 0)).trans (decide_eq_false (by omega))) ?_
    refine E_iload_n rfl rfl ?_
    refine E_iconst (x := 3) rfl (by decide) ?_
    refine E_ic (t := 41) (b := true) rfl rfl ((cn_le (rfl : (a2).toInt = (a2).toInt) (by decide : (3 : Int32).toInt = 3)).trans (decide_eq_true (by omega))) ?_
    refine E_iload_n rfl rfl ?_
    refine E_sipush (x := 160) rfl (by decide) ?_
    refine E_ic (t := 55) (b := true) rfl rfl ((cn_le (rfl : (a3).toInt = (a3).toInt) (by decide : (160 : Int32).toInt = 160)).trans (decide_eq_true (by omega))) ?_
    refine E_aload_n rfl rfl ?_
    refine E_getfield (v := .ref 76) rfl rfl rfl (by decide) rfl ?_
    refine E_iload_n rfl rfl ?_
    refine E_iconst (x := 1) rfl (by decide) ?_
    refine E_iastore (j := 3) (cs2 := (((w0.set 55 (.inr (.inr (.inr (3, [.ref 56, .int (100 + a2), .int 0]))))).set 55 (.inr (.inr (.inr (3, [.ref 56, .int (100 + a2), .int a3]))))).set 76 (.inl [0, 0, 0, 1, 0, 0, 0, 0]))) rfl rfl (by decide) (by decide) (Nat.le_of_ble_eq_true rfl) rfl ?_
    refine E_aload_n rfl rfl ?_
    refine E_getfield (v := .ref 77) rfl rfl rfl (by decide) rfl ?_
    refine E_iload_n rfl rfl ?_
    refine E_iload_n rfl rfl ?_
    refine E_iastore (j := 3) (cs2 := ((((w0.set 55 (.inr (.inr (.inr (3, [.ref 56, .int (100 + a2), .int 0]))))).set 55 (.inr (.inr (.inr (3, [.ref 56, .int (100 + a2), .int a3]))))).set 76 (.inl [0, 0, 0, 1, 0, 0, 0, 0])).set 77 (.inl [0, 0, 0, a2, 0, 0, 0, 0]))) rfl rfl (by decide) (by decide) (Nat.le_of_ble_eq_true rfl) rfl ?_
    refine E_aload_n rfl rfl ?_
    refine E_getfield (v := .ref 78) rfl rfl rfl (by decide) rfl ?_
    refine E_iload_n rfl rfl ?_
    refine E_iload_n rfl rfl ?_
    refine E_iastore (j := 3) (cs2 := (((((w0.set 55 (.inr (.inr (.inr (3, [.ref 56, .int (100 + a2), .int 0]))))).set 55 (.inr (.inr (.inr (3, [.ref 56, .int (100 + a2), .int a3]))))).set 76 (.inl [0, 0, 0, 1, 0, 0, 0, 0])).set 77 (.inl [0, 0, 0, a2, 0, 0, 0, 0])).set 78 (.inl [0, 0, 0, a3, 0, 0, 0, 0]))) rfl rfl (by decide) (by decide) (Nat.le_of_ble_eq_true rfl) rfl ?_
    refine E_iconst (x := 0) rfl (by decide) ?_
    refine E_istore (L2 := [some (.ref 65), some (.int 3), some (.int a2), some (.int a3), some (.int 0)]) rfl rfl ?_
    refine (p1_mrow (sv := 3) (by decide) rfl rfl rfl ?_ 160 0 rfl)
    refine E_iconst (x := 1) rfl (by decide) ?_
    exact E_iret rfl rfl, (by simp only [List.length_set]; rfl), (by simp only [List.length_set]; rfl), ((ab_szs rfl).trans ((ab_szs rfl).trans ((ab_szs rfl).trans ((ab_szs rfl).trans ((ab_szs rfl).trans rfl))))), fun _ => rfl⟩
theorem f_row_8 (a2 a3 : Int32) (ha2l : (0 : Int) ≤ a2.toInt) (ha2h : a2.toInt ≤ 3) (ha3l : (0 : Int) ≤ a3.toInt) (ha3h : a3.toInt ≤ 160) : p1_P 3 76 2 135 [.ref 0, .int 4, .int a2, .int a3] [.ref 65, .int 4, .int a2, .int a3] :=
  ⟨1, ((w0.set 57 (.inr (.inr (.inr (3, [.ref 58, .int (100 + a2), .int 0]))))).set 57 (.inr (.inr (.inr (3, [.ref 58, .int (100 + a2), .int a3]))))), (((((w0.set 57 (.inr (.inr (.inr (3, [.ref 58, .int (100 + a2), .int 0]))))).set 57 (.inr (.inr (.inr (3, [.ref 58, .int (100 + a2), .int a3]))))).set 76 (.inl [0, 0, 0, 0, 1, 0, 0, 0])).set 77 (.inl [0, 0, 0, 0, a2, 0, 0, 0])).set 78 (.inl [0, 0, 0, 0, a3, 0, 0, 0])), by
    refine Ef.in (md := mX5_row) (L := [some (.ref 0), some (.int 4), some (.int a2), some (.int a3)]) rfl (Nat.le_of_ble_eq_true rfl) rfl ?_
    refine E_iload_n rfl rfl ?_
    refine E_callS (v := some (.int 1)) (As := [.int 4]) (r0 := []) (cs2 := w0) rfl rfl rfl (Nat.le_of_ble_eq_true rfl) rfl c18_X5_isShelf (by decide) rfl ?_
    refine E_if (t := 13) (b := true) rfl rfl (by decide) ?_
    refine E_iload_n rfl rfl ?_
    refine E_if (t := 23) (b := true) rfl rfl ((cn_ge (rfl : (a3).toInt = (a3).toInt) (by decide : (0 : Int32).toInt = 0)).trans (decide_eq_true (by omega))) ?_
    refine E_iload_n rfl rfl ?_
    refine E_if (t := 32) (b := false) rfl rfl ((cn_lt (rfl : (a2).toInt = (a2).toInt) (by decide : (0 : Int32).toInt = 0)).trans (decide_eq_false (by omega))) ?_
    refine E_iload_n rfl rfl ?_
    refine E_iconst (x := 3) rfl (by decide) ?_
    refine E_ic (t := 39) (b := true) rfl rfl ((cn_le (rfl : (a2).toInt = (a2).toInt) (by decide : (3 : Int32).toInt = 3)).trans (decide_eq_true (by omega))) ?_
    refine E_iload_n rfl rfl ?_
    refine E_sipush (x := 160) rfl (by decide) ?_
    refine E_ic (t := 53) (b := true) rfl rfl ((cn_le (rfl : (a3).toInt = (a3).toInt) (by decide : (160 : Int32).toInt = 160)).trans (decide_eq_true (by omega))) ?_
    refine E_aload_n rfl rfl ?_
    refine E_getfield (v := .ref 31) rfl rfl rfl (by decide) rfl ?_
    refine E_iload_n rfl rfl ?_
    refine E_aaload (b := 57) (j := 4) rfl rfl (by decide) (by decide) rfl ?_
    refine E_iload_n rfl rfl ?_
    refine E_iload_n rfl rfl ?_
    have e20 : Ev ab_Z0 2 30 [.ref 57, .int a2, .int a3] w0 (none, ((w0.set 57 (.inr (.inr (.inr (3, [.ref 58, .int (100 + a2), .int 0]))))).set 57 (.inr (.inr (.inr (3, [.ref 58, .int (100 + a2), .int a3])))))) := by
      refine Ef.in (md := mX3_holdRow) (L := [some (.ref 57), some (.int a2), some (.int a3)]) rfl (Nat.le_of_ble_eq_true rfl) rfl ?_
      refine E_aload_n rfl rfl ?_
      refine E_getfield (v := .ref 58) rfl rfl rfl (by decide) rfl ?_
      refine E_lconst (x := 0) rfl (by decide) ?_
      refine E_callS (v := none) (As := [.ref 58, .long 0]) (r0 := []) (cs2 := w0) rfl rfl rfl (Nat.le_of_ble_eq_true rfl) rfl c19_J7_fill_d0a16 (by decide) rfl ?_
      refine E_aload_n rfl rfl ?_
      refine E_bipush (x := 100) rfl (by decide) ?_
      refine E_iload_n rfl rfl ?_
      refine E_iadd (z := (100 + a2)) rfl rfl ?_
      refine E_putfield (cs2 := (w0.set 57 (.inr (.inr (.inr (3, [.ref 58, .int (100 + a2), .int 0])))))) rfl rfl rfl (by decide) (Nat.le_of_ble_eq_true rfl) rfl rfl rfl rfl ?_
      refine E_aload_n rfl rfl ?_
      refine E_iload_n rfl rfl ?_
      refine E_putfield (cs2 := ((w0.set 57 (.inr (.inr (.inr (3, [.ref 58, .int (100 + a2), .int 0]))))).set 57 (.inr (.inr (.inr (3, [.ref 58, .int (100 + a2), .int a3])))))) rfl rfl rfl (by decide) (Nat.le_of_ble_eq_true rfl) rfl rfl rfl rfl ?_
      exact E_vret rfl rfl
    refine E_callV (v := none) (As := [.ref 57, .int a2, .int a3]) (r0 := []) (cs2 := ((w0.set 57 (.inr (.inr (.inr (3, [.ref 58, .int (100 + a2), .int 0]))))).set 57 (.inr (.inr (.inr (3, [.ref 58, .int (100 + a2), .int a3])))))) rfl rfl rfl (Nat.le_of_ble_eq_true rfl) rfl rfl e20 (by decide) (by simp only [List.length_set]) ?_
    refine E_iconst (x := 1) rfl (by decide) ?_
    exact E_iret rfl rfl, by
    refine Ef.in (md := mX6_row) (L := [some (.ref 65), some (.int 4), some (.int a2), some (.int a3), none]) rfl (Nat.le_of_ble_eq_true rfl) rfl ?_
    refine E_aload_n rfl rfl ?_
    refine E_iload_n rfl rfl ?_
    have e3 : Ev ab_Z0 1 131 [.ref 65, .int 4] ((w0.set 57 (.inr (.inr (.inr (3, [.ref 58, .int (100 + a2), .int 0]))))).set 57 (.inr (.inr (.inr (3, [.ref 58, .int (100 + a2), .int a3]))))) (some (.int 1), ((w0.set 57 (.inr (.inr (.inr (3, [.ref 58, .int (100 + a2), .int 0]))))).set 57 (.inr (.inr (.inr (3, [.ref 58, .int (100 + a2), .int a3])))))) := by
      refine Ef.in (md := mX6_isShelf) (L := [some (.ref 65), some (.int 4)]) rfl (Nat.le_of_ble_eq_true rfl) rfl ?_
      refine E_iload_n rfl rfl ?_
      refine E_if (t := 14) (b := false) rfl rfl (by decide) ?_
      refine E_iload_n rfl rfl ?_
      refine E_bipush (x := 8) rfl (by decide) ?_
      refine E_ic (t := 14) (b := false) rfl rfl (by decide) ?_
      refine E_iconst (x := 1) rfl (by decide) ?_
      refine E_goto (t := 15) rfl rfl ?_
      exact E_iret rfl rfl
    refine E_callV (v := some (.int 1)) (As := [.ref 65, .int 4]) (r0 := []) (cs2 := ((w0.set 57 (.inr (.inr (.inr (3, [.ref 58, .int (100 + a2), .int 0]))))).set 57 (.inr (.inr (.inr (3, [.ref 58, .int (100 + a2), .int a3])))))) rfl rfl rfl (Nat.le_of_ble_eq_true rfl) rfl rfl e3 (by decide) rfl ?_
    refine E_if (t := 14) (b := true) rfl rfl (by decide) ?_
    refine E_iload_n rfl rfl ?_
    refine E_if (t := 25) (b := true) rfl rfl ((cn_ge (rfl : (a3).toInt = (a3).toInt) (by decide : (0 : Int32).toInt = 0)).trans (decide_eq_true (by omega))) ?_
    refine E_iload_n rfl rfl ?_
    refine E_if (t := 34) (b := false) rfl rfl ((cn_lt (rfl : (a2).toInt = (a2).toInt) (by decide : (0 : Int32).toInt = 0)).trans (decide_eq_false (by omega))) ?_
    refine E_iload_n rfl rfl ?_
    refine E_iconst (x := 3) rfl (by decide) ?_
    refine E_ic (t := 41) (b := true) rfl rfl ((cn_le (rfl : (a2).toInt = (a2).toInt) (by decide : (3 : Int32).toInt = 3)).trans (decide_eq_true (by omega))) ?_
    refine E_iload_n rfl rfl ?_
    refine E_sipush (x := 160) rfl (by decide) ?_
    refine E_ic (t := 55) (b := true) rfl rfl ((cn_le (rfl : (a3).toInt = (a3).toInt) (by decide : (160 : Int32).toInt = 160)).trans (decide_eq_true (by omega))) ?_
    refine E_aload_n rfl rfl ?_
    refine E_getfield (v := .ref 76) rfl rfl rfl (by decide) rfl ?_
    refine E_iload_n rfl rfl ?_
    refine E_iconst (x := 1) rfl (by decide) ?_
    refine E_iastore (j := 4) (cs2 := (((w0.set 57 (.inr (.inr (.inr (3, [.ref 58, .int (100 + a2), .int 0]))))).set 57 (.inr (.inr (.inr (3, [.ref 58, .int (100 + a2), .int a3]))))).set 76 (.inl [0, 0, 0, 0, 1, 0, 0, 0]))) rfl rfl (by decide) (by decide) (Nat.le_of_ble_eq_true rfl) rfl ?_
    refine E_aload_n rfl rfl ?_
    refine E_getfield (v := .ref 77) rfl rfl rfl (by decide) rfl ?_
    refine E_iload_n rfl rfl ?_
    refine E_iload_n rfl rfl ?_
    refine E_iastore (j := 4) (cs2 := ((((w0.set 57 (.inr (.inr (.inr (3, [.ref 58, .int (100 + a2), .int 0]))))).set 57 (.inr (.inr (.inr (3, [.ref 58, .int (100 + a2), .int a3]))))).set 76 (.inl [0, 0, 0, 0, 1, 0, 0, 0])).set 77 (.inl [0, 0, 0, 0, a2, 0, 0, 0]))) rfl rfl (by decide) (by decide) (Nat.le_of_ble_eq_true rfl) rfl ?_
    refine E_aload_n rfl rfl ?_
    refine E_getfield (v := .ref 78) rfl rfl rfl (by decide) rfl ?_
    refine E_iload_n rfl rfl ?_
    refine E_iload_n rfl rfl ?_
    refine E_iastore (j := 4) (cs2 := (((((w0.set 57 (.inr (.inr (.inr (3, [.ref 58, .int (100 + a2), .int 0]))))).set 57 (.inr (.inr (.inr (3, [.ref 58, .int (100 + a2), .int a3]))))).set 76 (.inl [0, 0, 0, 0, 1, 0, 0, 0])).set 77 (.inl [0, 0, 0, 0, a2, 0, 0, 0])).set 78 (.inl [0, 0, 0, 0, a3, 0, 0, 0]))) rfl rfl (by decide) (by decide) (Nat.le_of_ble_eq_true rfl) rfl ?_
    refine E_iconst (x := 0) rfl (by decide) ?_
    refine E_istore (L2 := [some (.ref 65), some (.int 4), some (.int a2), some (.int a3), some (.int 0)]) rfl rfl ?_
    refine (p1_mrow (sv := 4) (by decide) rfl rfl rfl ?_ 160 0 rfl)
    refine E_iconst (x := 1) rfl (by decide) ?_
    exact E_iret rfl rfl, (by simp only [List.length_set]; rfl), (by simp only [List.length_set]; rfl), ((ab_szs rfl).trans ((ab_szs rfl).trans ((ab_szs rfl).trans ((ab_szs rfl).trans ((ab_szs rfl).trans rfl))))), fun _ => rfl⟩
theorem f_row_9 (a2 a3 : Int32) (ha2l : (0 : Int) ≤ a2.toInt) (ha2h : a2.toInt ≤ 3) (ha3l : (0 : Int) ≤ a3.toInt) (ha3h : a3.toInt ≤ 160) : p1_P 3 76 2 135 [.ref 0, .int 5, .int a2, .int a3] [.ref 65, .int 5, .int a2, .int a3] :=
  ⟨1, ((w0.set 59 (.inr (.inr (.inr (3, [.ref 60, .int (100 + a2), .int 0]))))).set 59 (.inr (.inr (.inr (3, [.ref 60, .int (100 + a2), .int a3]))))), (((((w0.set 59 (.inr (.inr (.inr (3, [.ref 60, .int (100 + a2), .int 0]))))).set 59 (.inr (.inr (.inr (3, [.ref 60, .int (100 + a2), .int a3]))))).set 76 (.inl [0, 0, 0, 0, 0, 1, 0, 0])).set 77 (.inl [0, 0, 0, 0, 0, a2, 0, 0])).set 78 (.inl [0, 0, 0, 0, 0, a3, 0, 0])), by
    refine Ef.in (md := mX5_row) (L := [some (.ref 0), some (.int 5), some (.int a2), some (.int a3)]) rfl (Nat.le_of_ble_eq_true rfl) rfl ?_
    refine E_iload_n rfl rfl ?_
    refine E_callS (v := some (.int 1)) (As := [.int 5]) (r0 := []) (cs2 := w0) rfl rfl rfl (Nat.le_of_ble_eq_true rfl) rfl c20_X5_isShelf (by decide) rfl ?_
    refine E_if (t := 13) (b := true) rfl rfl (by decide) ?_
    refine E_iload_n rfl rfl ?_
    refine E_if (t := 23) (b := true) rfl rfl ((cn_ge (rfl : (a3).toInt = (a3).toInt) (by decide : (0 : Int32).toInt = 0)).trans (decide_eq_true (by omega))) ?_
    refine E_iload_n rfl rfl ?_
    refine E_if (t := 32) (b := false) rfl rfl ((cn_lt (rfl : (a2).toInt = (a2).toInt) (by decide : (0 : Int32).toInt = 0)).trans (decide_eq_false (by omega))) ?_
    refine E_iload_n rfl rfl ?_
    refine E_iconst (x := 3) rfl (by decide) ?_
    refine E_ic (t := 39) (b := true) rfl rfl ((cn_le (rfl : (a2).toInt = (a2).toInt) (by decide : (3 : Int32).toInt = 3)).trans (decide_eq_true (by omega))) ?_
    refine E_iload_n rfl rfl ?_
    refine E_sipush (x := 160) rfl (by decide) ?_
    refine E_ic (t := 53) (b := true) rfl rfl ((cn_le (rfl : (a3).toInt = (a3).toInt) (by decide : (160 : Int32).toInt = 160)).trans (decide_eq_true (by omega))) ?_
    refine E_aload_n rfl rfl ?_
    refine E_getfield (v := .ref 31) rfl rfl rfl (by decide) rfl ?_
    refine E_iload_n rfl rfl ?_
    refine E_aaload (b := 59) (j := 5) rfl rfl (by decide) (by decide) rfl ?_
    refine E_iload_n rfl rfl ?_
    refine E_iload_n rfl rfl ?_
    have e20 : Ev ab_Z0 2 30 [.ref 59, .int a2, .int a3] w0 (none, ((w0.set 59 (.inr (.inr (.inr (3, [.ref 60, .int (100 + a2), .int 0]))))).set 59 (.inr (.inr (.inr (3, [.ref 60, .int (100 + a2), .int a3])))))) := by
      refine Ef.in (md := mX3_holdRow) (L := [some (.ref 59), some (.int a2), some (.int a3)]) rfl (Nat.le_of_ble_eq_true rfl) rfl ?_
      refine E_aload_n rfl rfl ?_
      refine E_getfield (v := .ref 60) rfl rfl rfl (by decide) rfl ?_
      refine E_lconst (x := 0) rfl (by decide) ?_
      refine E_callS (v := none) (As := [.ref 60, .long 0]) (r0 := []) (cs2 := w0) rfl rfl rfl (Nat.le_of_ble_eq_true rfl) rfl c21_J7_fill_d0a16 (by decide) rfl ?_
      refine E_aload_n rfl rfl ?_
      refine E_bipush (x := 100) rfl (by decide) ?_
      refine E_iload_n rfl rfl ?_
      refine E_iadd (z := (100 + a2)) rfl rfl ?_
      refine E_putfield (cs2 := (w0.set 59 (.inr (.inr (.inr (3, [.ref 60, .int (100 + a2), .int 0])))))) rfl rfl rfl (by decide) (Nat.le_of_ble_eq_true rfl) rfl rfl rfl rfl ?_
      refine E_aload_n rfl rfl ?_
      refine E_iload_n rfl rfl ?_
      refine E_putfield (cs2 := ((w0.set 59 (.inr (.inr (.inr (3, [.ref 60, .int (100 + a2), .int 0]))))).set 59 (.inr (.inr (.inr (3, [.ref 60, .int (100 + a2), .int a3])))))) rfl rfl rfl (by decide) (Nat.le_of_ble_eq_true rfl) rfl rfl rfl rfl ?_
      exact E_vret rfl rfl
    refine E_callV (v := none) (As := [.ref 59, .int a2, .int a3]) (r0 := []) (cs2 := ((w0.set 59 (.inr (.inr (.inr (3, [.ref 60, .int (100 + a2), .int 0]))))).set 59 (.inr (.inr (.inr (3, [.ref 60, .int (100 + a2), .int a3])))))) rfl rfl rfl (Nat.le_of_ble_eq_true rfl) rfl rfl e20 (by decide) (by simp only [List.length_set]) ?_
    refine E_iconst (x := 1) rfl (by decide) ?_
    exact E_iret rfl rfl, by
    refine Ef.in (md := mX6_row) (L := [some (.ref 65), some (.int 5), some (.int a2), some (.int a3), none]) rfl (Nat.le_of_ble_eq_true rfl) rfl ?_
    refine E_aload_n rfl rfl ?_
    refine E_iload_n rfl rfl ?_
    have e3 : Ev ab_Z0 1 131 [.ref 65, .int 5] ((w0.set 59 (.inr (.inr (.inr (3, [.ref 60, .int (100 + a2), .int 0]))))).set 59 (.inr (.inr (.inr (3, [.ref 60, .int (100 + a2), .int a3]))))) (some (.int 1), ((w0.set 59 (.inr (.inr (.inr (3, [.ref 60, .int (100 + a2), .int 0]))))).set 59 (.inr (.inr (.inr (3, [.ref 60, .int (100 + a2), .int a3])))))) := by
      refine Ef.in (md := mX6_isShelf) (L := [some (.ref 65), some (.int 5)]) rfl (Nat.le_of_ble_eq_true rfl) rfl ?_
      refine E_iload_n rfl rfl ?_
      refine E_if (t := 14) (b := false) rfl rfl (by decide) ?_
      refine E_iload_n rfl rfl ?_
      refine E_bipush (x := 8) rfl (by decide) ?_
      refine E_ic (t := 14) (b := false) rfl rfl (by decide) ?_
      refine E_iconst (x := 1) rfl (by decide) ?_
      refine E_goto (t := 15) rfl rfl ?_
      exact E_iret rfl rfl
    refine E_callV (v := some (.int 1)) (As := [.ref 65, .int 5]) (r0 := []) (cs2 := ((w0.set 59 (.inr (.inr (.inr (3, [.ref 60, .int (100 + a2), .int 0]))))).set 59 (.inr (.inr (.inr (3, [.ref 60, .int (100 + a2), .int a3])))))) rfl rfl rfl (Nat.le_of_ble_eq_true rfl) rfl rfl e3 (by decide) rfl ?_
    refine E_if (t := 14) (b := true) rfl rfl (by decide) ?_
    refine E_iload_n rfl rfl ?_
    refine E_if (t := 25) (b := true) rfl rfl ((cn_ge (rfl : (a3).toInt = (a3).toInt) (by decide : (0 : Int32).toInt = 0)).trans (decide_eq_true (by omega))) ?_
    refine E_iload_n rfl rfl ?_
    refine E_if (t := 34) (b := false) rfl rfl ((cn_lt (rfl : (a2).toInt = (a2).toInt) (by decide : (0 : Int32).toInt = 0)).trans (decide_eq_false (by omega))) ?_
    refine E_iload_n rfl rfl ?_
    refine E_iconst (x := 3) rfl (by decide) ?_
    refine E_ic (t := 41) (b := true) rfl rfl ((cn_le (rfl : (a2).toInt = (a2).toInt) (by decide : (3 : Int32).toInt = 3)).trans (decide_eq_true (by omega))) ?_
    refine E_iload_n rfl rfl ?_
    refine E_sipush (x := 160) rfl (by decide) ?_
    refine E_ic (t := 55) (b := true) rfl rfl ((cn_le (rfl : (a3).toInt = (a3).toInt) (by decide : (160 : Int32).toInt = 160)).trans (decide_eq_true (by omega))) ?_
    refine E_aload_n rfl rfl ?_
    refine E_getfield (v := .ref 76) rfl rfl rfl (by decide) rfl ?_
    refine E_iload_n rfl rfl ?_
    refine E_iconst (x := 1) rfl (by decide) ?_
    refine E_iastore (j := 5) (cs2 := (((w0.set 59 (.inr (.inr (.inr (3, [.ref 60, .int (100 + a2), .int 0]))))).set 59 (.inr (.inr (.inr (3, [.ref 60, .int (100 + a2), .int a3]))))).set 76 (.inl [0, 0, 0, 0, 0, 1, 0, 0]))) rfl rfl (by decide) (by decide) (Nat.le_of_ble_eq_true rfl) rfl ?_
    refine E_aload_n rfl rfl ?_
    refine E_getfield (v := .ref 77) rfl rfl rfl (by decide) rfl ?_
    refine E_iload_n rfl rfl ?_
    refine E_iload_n rfl rfl ?_
    refine E_iastore (j := 5) (cs2 := ((((w0.set 59 (.inr (.inr (.inr (3, [.ref 60, .int (100 + a2), .int 0]))))).set 59 (.inr (.inr (.inr (3, [.ref 60, .int (100 + a2), .int a3]))))).set 76 (.inl [0, 0, 0, 0, 0, 1, 0, 0])).set 77 (.inl [0, 0, 0, 0, 0, a2, 0, 0]))) rfl rfl (by decide) (by decide) (Nat.le_of_ble_eq_true rfl) rfl ?_
    refine E_aload_n rfl rfl ?_
    refine E_getfield (v := .ref 78) rfl rfl rfl (by decide) rfl ?_
    refine E_iload_n rfl rfl ?_
    refine E_iload_n rfl rfl ?_
    refine E_iastore (j := 5) (cs2 := (((((w0.set 59 (.inr (.inr (.inr (3, [.ref 60, .int (100 + a2), .int 0]))))).set 59 (.inr (.inr (.inr (3, [.ref 60, .int (100 + a2), .int a3]))))).set 76 (.inl [0, 0, 0, 0, 0, 1, 0, 0])).set 77 (.inl [0, 0, 0, 0, 0, a2, 0, 0])).set 78 (.inl [0, 0, 0, 0, 0, a3, 0, 0]))) rfl rfl (by decide) (by decide) (Nat.le_of_ble_eq_true rfl) rfl ?_
    refine E_iconst (x := 0) rfl (by decide) ?_
    refine E_istore (L2 := [some (.ref 65), some (.int 5), some (.int a2), some (.int a3), some (.int 0)]) rfl rfl ?_
    refine (p1_mrow (sv := 5) (by decide) rfl rfl rfl ?_ 160 0 rfl)
    refine E_iconst (x := 1) rfl (by decide) ?_
    exact E_iret rfl rfl, (by simp only [List.length_set]; rfl), (by simp only [List.length_set]; rfl), ((ab_szs rfl).trans ((ab_szs rfl).trans ((ab_szs rfl).trans ((ab_szs rfl).trans ((ab_szs rfl).trans rfl))))), fun _ => rfl⟩
theorem f_row_10 (a2 a3 : Int32) (ha2l : (0 : Int) ≤ a2.toInt) (ha2h : a2.toInt ≤ 3) (ha3l : (0 : Int) ≤ a3.toInt) (ha3h : a3.toInt ≤ 160) : p1_P 3 76 2 135 [.ref 0, .int 6, .int a2, .int a3] [.ref 65, .int 6, .int a2, .int a3] :=
  ⟨1, ((w0.set 61 (.inr (.inr (.inr (3, [.ref 62, .int (100 + a2), .int 0]))))).set 61 (.inr (.inr (.inr (3, [.ref 62, .int (100 + a2), .int a3]))))), (((((w0.set 61 (.inr (.inr (.inr (3, [.ref 62, .int (100 + a2), .int 0]))))).set 61 (.inr (.inr (.inr (3, [.ref 62, .int (100 + a2), .int a3]))))).set 76 (.inl [0, 0, 0, 0, 0, 0, 1, 0])).set 77 (.inl [0, 0, 0, 0, 0, 0, a2, 0])).set 78 (.inl [0, 0, 0, 0, 0, 0, a3, 0])), by
    refine Ef.in (md := mX5_row) (L := [some (.ref 0), some (.int 6), some (.int a2), some (.int a3)]) rfl (Nat.le_of_ble_eq_true rfl) rfl ?_
    refine E_iload_n rfl rfl ?_
    refine E_callS (v := some (.int 1)) (As := [.int 6]) (r0 := []) (cs2 := w0) rfl rfl rfl (Nat.le_of_ble_eq_true rfl) rfl c22_X5_isShelf (by decide) rfl ?_
    refine E_if (t := 13) (b := true) rfl rfl (by decide) ?_
    refine E_iload_n rfl rfl ?_
    refine E_if (t := 23) (b := true) rfl rfl ((cn_ge (rfl : (a3).toInt = (a3).toInt) (by decide : (0 : Int32).toInt = 0)).trans (decide_eq_true (by omega))) ?_
    refine E_iload_n rfl rfl ?_
    refine E_if (t := 32) (b := false) rfl rfl ((cn_lt (rfl : (a2).toInt = (a2).toInt) (by decide : (0 : Int32).toInt = 0)).trans (decide_eq_false (by omega))) ?_
    refine E_iload_n rfl rfl ?_
    refine E_iconst (x := 3) rfl (by decide) ?_
    refine E_ic (t := 39) (b := true) rfl rfl ((cn_le (rfl : (a2).toInt = (a2).toInt) (by decide : (3 : Int32).toInt = 3)).trans (decide_eq_true (by omega))) ?_
    refine E_iload_n rfl rfl ?_
    refine E_sipush (x := 160) rfl (by decide) ?_
    refine E_ic (t := 53) (b := true) rfl rfl ((cn_le (rfl : (a3).toInt = (a3).toInt) (by decide : (160 : Int32).toInt = 160)).trans (decide_eq_true (by omega))) ?_
    refine E_aload_n rfl rfl ?_
    refine E_getfield (v := .ref 31) rfl rfl rfl (by decide) rfl ?_
    refine E_iload_n rfl rfl ?_
    refine E_aaload (b := 61) (j := 6) rfl rfl (by decide) (by decide) rfl ?_
    refine E_iload_n rfl rfl ?_
    refine E_iload_n rfl rfl ?_
    have e20 : Ev ab_Z0 2 30 [.ref 61, .int a2, .int a3] w0 (none, ((w0.set 61 (.inr (.inr (.inr (3, [.ref 62, .int (100 + a2), .int 0]))))).set 61 (.inr (.inr (.inr (3, [.ref 62, .int (100 + a2), .int a3])))))) := by
      refine Ef.in (md := mX3_holdRow) (L := [some (.ref 61), some (.int a2), some (.int a3)]) rfl (Nat.le_of_ble_eq_true rfl) rfl ?_
      refine E_aload_n rfl rfl ?_
      refine E_getfield (v := .ref 62) rfl rfl rfl (by decide) rfl ?_
      refine E_lconst (x := 0) rfl (by decide) ?_
      refine E_callS (v := none) (As := [.ref 62, .long 0]) (r0 := []) (cs2 := w0) rfl rfl rfl (Nat.le_of_ble_eq_true rfl) rfl c23_J7_fill_d0a16 (by decide) rfl ?_
      refine E_aload_n rfl rfl ?_
      refine E_bipush (x := 100) rfl (by decide) ?_
      refine E_iload_n rfl rfl ?_
      refine E_iadd (z := (100 + a2)) rfl rfl ?_
      refine E_putfield (cs2 := (w0.set 61 (.inr (.inr (.inr (3, [.ref 62, .int (100 + a2), .int 0])))))) rfl rfl rfl (by decide) (Nat.le_of_ble_eq_true rfl) rfl rfl rfl rfl ?_
      refine E_aload_n rfl rfl ?_
      refine E_iload_n rfl rfl ?_
      refine E_putfield (cs2 := ((w0.set 61 (.inr (.inr (.inr (3, [.ref 62, .int (100 + a2), .int 0]))))).set 61 (.inr (.inr (.inr (3, [.ref 62, .int (100 + a2), .int a3])))))) rfl rfl rfl (by decide) (Nat.le_of_ble_eq_true rfl) rfl rfl rfl rfl ?_
      exact E_vret rfl rfl
    refine E_callV (v := none) (As := [.ref 61, .int a2, .int a3]) (r0 := []) (cs2 := ((w0.set 61 (.inr (.inr (.inr (3, [.ref 62, .int (100 + a2), .int 0]))))).set 61 (.inr (.inr (.inr (3, [.ref 62, .int (100 + a2), .int a3])))))) rfl rfl rfl (Nat.le_of_ble_eq_true rfl) rfl rfl e20 (by decide) (by simp only [List.length_set]) ?_
    refine E_iconst (x := 1) rfl (by decide) ?_
    exact E_iret rfl rfl, by
    refine Ef.in (md := mX6_row) (L := [some (.ref 65), some (.int 6), some (.int a2), some (.int a3), none]) rfl (Nat.le_of_ble_eq_true rfl) rfl ?_
    refine E_aload_n rfl rfl ?_
    refine E_iload_n rfl rfl ?_
    have e3 : Ev ab_Z0 1 131 [.ref 65, .int 6] ((w0.set 61 (.inr (.inr (.inr (3, [.ref 62, .int (100 + a2), .int 0]))))).set 61 (.inr (.inr (.inr (3, [.ref 62, .int (100 + a2), .int a3]))))) (some (.int 1), ((w0.set 61 (.inr (.inr (.inr (3, [.ref 62, .int (100 + a2), .int 0]))))).set 61 (.inr (.inr (.inr (3, [.ref 62, .int (100 + a2), .int a3])))))) := by
      refine Ef.in (md := mX6_isShelf) (L := [some (.ref 65), some (.int 6)]) rfl (Nat.le_of_ble_eq_true rfl) rfl ?_
      refine E_iload_n rfl rfl ?_
      refine E_if (t := 14) (b := false) rfl rfl (by decide) ?_
      refine E_iload_n rfl rfl ?_
      refine E_bipush (x := 8) rfl (by decide) ?_
      refine E_ic (t := 14) (b := false) rfl rfl (by decide) ?_
      refine E_iconst (x := 1) rfl (by decide) ?_
      refine E_goto (t := 15) rfl rfl ?_
      exact E_iret rfl rfl
    refine E_callV (v := some (.int 1)) (As := [.ref 65, .int 6]) (r0 := []) (cs2 := ((w0.set 61 (.inr (.inr (.inr (3, [.ref 62, .int (100 + a2), .int 0]))))).set 61 (.inr (.inr (.inr (3, [.ref 62, .int (100 + a2), .int a3])))))) rfl rfl rfl (Nat.le_of_ble_eq_true rfl) rfl rfl e3 (by decide) rfl ?_
    refine E_if (t := 14) (b := true) rfl rfl (by decide) ?_
    refine E_iload_n rfl rfl ?_
    refine E_if (t := 25) (b := true) rfl rfl ((cn_ge (rfl : (a3).toInt = (a3).toInt) (by decide : (0 : Int32).toInt = 0)).trans (decide_eq_true (by omega))) ?_
    refine E_iload_n rfl rfl ?_
    refine E_if (t := 34) (b := false) rfl rfl ((cn_lt (rfl : (a2).toInt = (a2).toInt) (by decide : (0 : Int32).toInt = 0)).trans (decide_eq_false (by omega))) ?_
    refine E_iload_n rfl rfl ?_
    refine E_iconst (x := 3) rfl (by decide) ?_
    refine E_ic (t := 41) (b := true) rfl rfl ((cn_le (rfl : (a2).toInt = (a2).toInt) (by decide : (3 : Int32).toInt = 3)).trans (decide_eq_true (by omega))) ?_
    refine E_iload_n rfl rfl ?_
    refine E_sipush (x := 160) rfl (by decide) ?_
    refine E_ic (t := 55) (b := true) rfl rfl ((cn_le (rfl : (a3).toInt = (a3).toInt) (by decide : (160 : Int32).toInt = 160)).trans (decide_eq_true (by omega))) ?_
    refine E_aload_n rfl rfl ?_
    refine E_getfield (v := .ref 76) rfl rfl rfl (by decide) rfl ?_
    refine E_iload_n rfl rfl ?_
    refine E_iconst (x := 1) rfl (by decide) ?_
    refine E_iastore (j := 6) (cs2 := (((w0.set 61 (.inr (.inr (.inr (3, [.ref 62, .int (100 + a2), .int 0]))))).set 61 (.inr (.inr (.inr (3, [.ref 62, .int (100 + a2), .int a3]))))).set 76 (.inl [0, 0, 0, 0, 0, 0, 1, 0]))) rfl rfl (by decide) (by decide) (Nat.le_of_ble_eq_true rfl) rfl ?_
    refine E_aload_n rfl rfl ?_
    refine E_getfield (v := .ref 77) rfl rfl rfl (by decide) rfl ?_
    refine E_iload_n rfl rfl ?_
    refine E_iload_n rfl rfl ?_
    refine E_iastore (j := 6) (cs2 := ((((w0.set 61 (.inr (.inr (.inr (3, [.ref 62, .int (100 + a2), .int 0]))))).set 61 (.inr (.inr (.inr (3, [.ref 62, .int (100 + a2), .int a3]))))).set 76 (.inl [0, 0, 0, 0, 0, 0, 1, 0])).set 77 (.inl [0, 0, 0, 0, 0, 0, a2, 0]))) rfl rfl (by decide) (by decide) (Nat.le_of_ble_eq_true rfl) rfl ?_
    refine E_aload_n rfl rfl ?_
    refine E_getfield (v := .ref 78) rfl rfl rfl (by decide) rfl ?_
    refine E_iload_n rfl rfl ?_
    refine E_iload_n rfl rfl ?_
    refine E_iastore (j := 6) (cs2 := (((((w0.set 61 (.inr (.inr (.inr (3, [.ref 62, .int (100 + a2), .int 0]))))).set 61 (.inr (.inr (.inr (3, [.ref 62, .int (100 + a2), .int a3]))))).set 76 (.inl [0, 0, 0, 0, 0, 0, 1, 0])).set 77 (.inl [0, 0, 0, 0, 0, 0, a2, 0])).set 78 (.inl [0, 0, 0, 0, 0, 0, a3, 0]))) rfl rfl (by decide) (by decide) (Nat.le_of_ble_eq_true rfl) rfl ?_
    refine E_iconst (x := 0) rfl (by decide) ?_
    refine E_istore (L2 := [some (.ref 65), some (.int 6), some (.int a2), some (.int a3), some (.int 0)]) rfl rfl ?_
    refine (p1_mrow (sv := 6) (by decide) rfl rfl rfl ?_ 160 0 rfl)
    refine E_iconst (x := 1) rfl (by decide) ?_
    exact E_iret rfl rfl, (by simp only [List.length_set]; rfl), (by simp only [List.length_set]; rfl), ((ab_szs rfl).trans ((ab_szs rfl).trans ((ab_szs rfl).trans ((ab_szs rfl).trans ((ab_szs rfl).trans rfl))))), fun _ => rfl⟩
theorem f_row_11 (a2 a3 : Int32) (ha2l : (0 : Int) ≤ a2.toInt) (ha2h : a2.toInt ≤ 3) (ha3l : (0 : Int) ≤ a3.toInt) (ha3h : a3.toInt ≤ 160) : p1_P 3 76 2 135 [.ref 0, .int 7, .int a2, .int a3] [.ref 65, .int 7, .int a2, .int a3] :=
  ⟨1, ((w0.set 63 (.inr (.inr (.inr (3, [.ref 64, .int (100 + a2), .int 0]))))).set 63 (.inr (.inr (.inr (3, [.ref 64, .int (100 + a2), .int a3]))))), (((((w0.set 63 (.inr (.inr (.inr (3, [.ref 64, .int (100 + a2), .int 0]))))).set 63 (.inr (.inr (.inr (3, [.ref 64, .int (100 + a2), .int a3]))))).set 76 (.inl [0, 0, 0, 0, 0, 0, 0, 1])).set 77 (.inl [0, 0, 0, 0, 0, 0, 0, a2])).set 78 (.inl [0, 0, 0, 0, 0, 0, 0, a3])), by
    refine Ef.in (md := mX5_row) (L := [some (.ref 0), some (.int 7), some (.int a2), some (.int a3)]) rfl (Nat.le_of_ble_eq_true rfl) rfl ?_
    refine E_iload_n rfl rfl ?_
    refine E_callS (v := some (.int 1)) (As := [.int 7]) (r0 := []) (cs2 := w0) rfl rfl rfl (Nat.le_of_ble_eq_true rfl) rfl c24_X5_isShelf (by decide) rfl ?_
    refine E_if (t := 13) (b := true) rfl rfl (by decide) ?_
    refine E_iload_n rfl rfl ?_
    refine E_if (t := 23) (b := true) rfl rfl ((cn_ge (rfl : (a3).toInt = (a3).toInt) (by decide : (0 : Int32).toInt = 0)).trans (decide_eq_true (by omega))) ?_
    refine E_iload_n rfl rfl ?_
    refine E_if (t := 32) (b := false) rfl rfl ((cn_lt (rfl : (a2).toInt = (a2).toInt) (by decide : (0 : Int32).toInt = 0)).trans (decide_eq_false (by omega))) ?_
    refine E_iload_n rfl rfl ?_
    refine E_iconst (x := 3) rfl (by decide) ?_
    refine E_ic (t := 39) (b := true) rfl rfl ((cn_le (rfl : (a2).toInt = (a2).toInt) (by decide : (3 : Int32).toInt = 3)).trans (decide_eq_true (by omega))) ?_
    refine E_iload_n rfl rfl ?_
    refine E_sipush (x := 160) rfl (by decide) ?_
    refine E_ic (t := 53) (b := true) rfl rfl ((cn_le (rfl : (a3).toInt = (a3).toInt) (by decide : (160 : Int32).toInt = 160)).trans (decide_eq_true (by omega))) ?_
    refine E_aload_n rfl rfl ?_
    refine E_getfield (v := .ref 31) rfl rfl rfl (by decide) rfl ?_
    refine E_iload_n rfl rfl ?_
    refine E_aaload (b := 63) (j := 7) rfl rfl (by decide) (by decide) rfl ?_
    refine E_iload_n rfl rfl ?_
    refine E_iload_n rfl rfl ?_
    have e20 : Ev ab_Z0 2 30 [.ref 63, .int a2, .int a3] w0 (none, ((w0.set 63 (.inr (.inr (.inr (3, [.ref 64, .int (100 + a2), .int 0]))))).set 63 (.inr (.inr (.inr (3, [.ref 64, .int (100 + a2), .int a3])))))) := by
      refine Ef.in (md := mX3_holdRow) (L := [some (.ref 63), some (.int a2), some (.int a3)]) rfl (Nat.le_of_ble_eq_true rfl) rfl ?_
      refine E_aload_n rfl rfl ?_
      refine E_getfield (v := .ref 64) rfl rfl rfl (by decide) rfl ?_
      refine E_lconst (x := 0) rfl (by decide) ?_
      refine E_callS (v := none) (As := [.ref 64, .long 0]) (r0 := []) (cs2 := w0) rfl rfl rfl (Nat.le_of_ble_eq_true rfl) rfl c25_J7_fill_d0a16 (by decide) rfl ?_
      refine E_aload_n rfl rfl ?_
      refine E_bipush (x := 100) rfl (by decide) ?_
      refine E_iload_n rfl rfl ?_
      refine E_iadd (z := (100 + a2)) rfl rfl ?_
      refine E_putfield (cs2 := (w0.set 63 (.inr (.inr (.inr (3, [.ref 64, .int (100 + a2), .int 0])))))) rfl rfl rfl (by decide) (Nat.le_of_ble_eq_true rfl) rfl rfl rfl rfl ?_
      refine E_aload_n rfl rfl ?_
      refine E_iload_n rfl rfl ?_
      refine E_putfield (cs2 := ((w0.set 63 (.inr (.inr (.inr (3, [.ref 64, .int (100 + a2), .int 0]))))).set 63 (.inr (.inr (.inr (3, [.ref 64, .int (100 + a2), .int a3])))))) rfl rfl rfl (by decide) (Nat.le_of_ble_eq_true rfl) rfl rfl rfl rfl ?_
      exact E_vret rfl rfl
    refine E_callV (v := none) (As := [.ref 63, .int a2, .int a3]) (r0 := []) (cs2 := ((w0.set 63 (.inr (.inr (.inr (3, [.ref 64, .int (100 + a2), .int 0]))))).set 63 (.inr (.inr (.inr (3, [.ref 64, .int (100 + a2), .int a3])))))) rfl rfl rfl (Nat.le_of_ble_eq_true rfl) rfl rfl e20 (by decide) (by simp only [List.length_set]) ?_
    refine E_iconst (x := 1) rfl (by decide) ?_
    exact E_iret rfl rfl, by
    refine Ef.in (md := mX6_row) (L := [some (.ref 65), some (.int 7), some (.int a2), some (.int a3), none]) rfl (Nat.le_of_ble_eq_true rfl) rfl ?_
    refine E_aload_n rfl rfl ?_
    refine E_iload_n rfl rfl ?_
    have e3 : Ev ab_Z0 1 131 [.ref 65, .int 7] ((w0.set 63 (.inr (.inr (.inr (3, [.ref 64, .int (100 + a2), .int 0]))))).set 63 (.inr (.inr (.inr (3, [.ref 64, .int (100 + a2), .int a3]))))) (some (.int 1), ((w0.set 63 (.inr (.inr (.inr (3, [.ref 64, .int (100 + a2), .int 0]))))).set 63 (.inr (.inr (.inr (3, [.ref 64, .int (100 + a2), .int a3])))))) := by
      refine Ef.in (md := mX6_isShelf) (L := [some (.ref 65), some (.int 7)]) rfl (Nat.le_of_ble_eq_true rfl) rfl ?_
      refine E_iload_n rfl rfl ?_
      refine E_if (t := 14) (b := false) rfl rfl (by decide) ?_
      refine E_iload_n rfl rfl ?_
      refine E_bipush (x := 8) rfl (by decide) ?_
      refine E_ic (t := 14) (b := false) rfl rfl (by decide) ?_
      refine E_iconst (x := 1) rfl (by decide) ?_
      refine E_goto (t := 15) rfl rfl ?_
      exact E_iret rfl rfl
    refine E_callV (v := some (.int 1)) (As := [.ref 65, .int 7]) (r0 := []) (cs2 := ((w0.set 63 (.inr (.inr (.inr (3, [.ref 64, .int (100 + a2), .int 0]))))).set 63 (.inr (.inr (.inr (3, [.ref 64, .int (100 + a2), .int a3])))))) rfl rfl rfl (Nat.le_of_ble_eq_true rfl) rfl rfl e3 (by decide) rfl ?_
    refine E_if (t := 14) (b := true) rfl rfl (by decide) ?_
    refine E_iload_n rfl rfl ?_
    refine E_if (t := 25) (b := true) rfl rfl ((cn_ge (rfl : (a3).toInt = (a3).toInt) (by decide : (0 : Int32).toInt = 0)).trans (decide_eq_true (by omega))) ?_
    refine E_iload_n rfl rfl ?_
    refine E_if (t := 34) (b := false) rfl rfl ((cn_lt (rfl : (a2).toInt = (a2).toInt) (by decide : (0 : Int32).toInt = 0)).trans (decide_eq_false (by omega))) ?_
    refine E_iload_n rfl rfl ?_
    refine E_iconst (x := 3) rfl (by decide) ?_
    refine E_ic (t := 41) (b := true) rfl rfl ((cn_le (rfl : (a2).toInt = (a2).toInt) (by decide : (3 : Int32).toInt = 3)).trans (decide_eq_true (by omega))) ?_
    refine E_iload_n rfl rfl ?_
    refine E_sipush (x := 160) rfl (by decide) ?_
    refine E_ic (t := 55) (b := true) rfl rfl ((cn_le (rfl : (a3).toInt = (a3).toInt) (by decide : (160 : Int32).toInt = 160)).trans (decide_eq_true (by omega))) ?_
    refine E_aload_n rfl rfl ?_
    refine E_getfield (v := .ref 76) rfl rfl rfl (by decide) rfl ?_
    refine E_iload_n rfl rfl ?_
    refine E_iconst (x := 1) rfl (by decide) ?_
    refine E_iastore (j := 7) (cs2 := (((w0.set 63 (.inr (.inr (.inr (3, [.ref 64, .int (100 + a2), .int 0]))))).set 63 (.inr (.inr (.inr (3, [.ref 64, .int (100 + a2), .int a3]))))).set 76 (.inl [0, 0, 0, 0, 0, 0, 0, 1]))) rfl rfl (by decide) (by decide) (Nat.le_of_ble_eq_true rfl) rfl ?_
    refine E_aload_n rfl rfl ?_
    refine E_getfield (v := .ref 77) rfl rfl rfl (by decide) rfl ?_
    refine E_iload_n rfl rfl ?_
    refine E_iload_n rfl rfl ?_
    refine E_iastore (j := 7) (cs2 := ((((w0.set 63 (.inr (.inr (.inr (3, [.ref 64, .int (100 + a2), .int 0]))))).set 63 (.inr (.inr (.inr (3, [.ref 64, .int (100 + a2), .int a3]))))).set 76 (.inl [0, 0, 0, 0, 0, 0, 0, 1])).set 77 (.inl [0, 0, 0, 0, 0, 0, 0, a2]))) rfl rfl (by decide) (by decide) (Nat.le_of_ble_eq_true rfl) rfl ?_
    refine E_aload_n rfl rfl ?_
    refine E_getfield (v := .ref 78) rfl rfl rfl (by decide) rfl ?_
    refine E_iload_n rfl rfl ?_
    refine E_iload_n rfl rfl ?_
    refine E_iastore (j := 7) (cs2 := (((((w0.set 63 (.inr (.inr (.inr (3, [.ref 64, .int (100 + a2), .int 0]))))).set 63 (.inr (.inr (.inr (3, [.ref 64, .int (100 + a2), .int a3]))))).set 76 (.inl [0, 0, 0, 0, 0, 0, 0, 1])).set 77 (.inl [0, 0, 0, 0, 0, 0, 0, a2])).set 78 (.inl [0, 0, 0, 0, 0, 0, 0, a3]))) rfl rfl (by decide) (by decide) (Nat.le_of_ble_eq_true rfl) rfl ?_
    refine E_iconst (x := 0) rfl (by decide) ?_
    refine E_istore (L2 := [some (.ref 65), some (.int 7), some (.int a2), some (.int a3), some (.int 0)]) rfl rfl ?_
    refine (p1_mrow (sv := 7) (by decide) rfl rfl rfl ?_ 160 0 rfl)
    refine E_iconst (x := 1) rfl (by decide) ?_
    exact E_iret rfl rfl, (by simp only [List.length_set]; rfl), (by simp only [List.length_set]; rfl), ((ab_szs rfl).trans ((ab_szs rfl).trans ((ab_szs rfl).trans ((ab_szs rfl).trans ((ab_szs rfl).trans rfl))))), fun _ => rfl⟩
theorem f_row_12 (a1 a2 a3 : Int32) (ha1l : (0 : Int) ≤ a1.toInt) (ha1h : a1.toInt ≤ 7) (ha2l : (0 : Int) ≤ a2.toInt) (ha2h : a2.toInt ≤ 3) (ha3l : (161 : Int) ≤ a3.toInt) : p1_P 3 76 2 135 [.ref 0, .int a1, .int a2, .int a3] [.ref 65, .int a1, .int a2, .int a3] :=
  ⟨(-7), (w0.set 48 (.inl [0, 0, 0, 0, 0, 0, 0, 1])), ((w0.set 48 (.inl [0, 0, 0, 0, 0, 0, 0, 1])).set 66 (.inl [0, 0, 0, 0, 0, 0, 0, 1])), by
    refine Ef.in (md := mX5_row) (L := [some (.ref 0), some (.int a1), some (.int a2), some (.int a3)]) rfl (Nat.le_of_ble_eq_true rfl) rfl ?_
    refine E_iload_n rfl rfl ?_
    have e2 : Ev ab_Z0 1 117 [.int a1] w0 (some (.int 1), w0) := by
      refine Ef.in (md := mX5_isShelf) (L := [some (.int a1)]) rfl (Nat.le_of_ble_eq_true rfl) rfl ?_
      refine E_iload_n rfl rfl ?_
      refine E_if (t := 14) (b := false) rfl rfl ((cn_lt (rfl : (a1).toInt = (a1).toInt) (by decide : (0 : Int32).toInt = 0)).trans (decide_eq_false (by omega))) ?_
      refine E_iload_n rfl rfl ?_
      refine E_bipush (x := 8) rfl (by decide) ?_
      refine E_ic (t := 14) (b := false) rfl rfl ((cn_ge (rfl : (a1).toInt = (a1).toInt) (by decide : (8 : Int32).toInt = 8)).trans (decide_eq_false (by omega))) ?_
      refine E_iconst (x := 1) rfl (by decide) ?_
      refine E_goto (t := 15) rfl rfl ?_
      exact E_iret rfl rfl
    refine E_callS (v := some (.int 1)) (As := [.int a1]) (r0 := []) (cs2 := w0) rfl rfl rfl (Nat.le_of_ble_eq_true rfl) rfl e2 (by decide) rfl ?_
    refine E_if (t := 13) (b := true) rfl rfl (by decide) ?_
    refine E_iload_n rfl rfl ?_
    refine E_if (t := 23) (b := true) rfl rfl ((cn_ge (rfl : (a3).toInt = (a3).toInt) (by decide : (0 : Int32).toInt = 0)).trans (decide_eq_true (by omega))) ?_
    refine E_iload_n rfl rfl ?_
    refine E_if (t := 32) (b := false) rfl rfl ((cn_lt (rfl : (a2).toInt = (a2).toInt) (by decide : (0 : Int32).toInt = 0)).trans (decide_eq_false (by omega))) ?_
    refine E_iload_n rfl rfl ?_
    refine E_iconst (x := 3) rfl (by decide) ?_
    refine E_ic (t := 39) (b := true) rfl rfl ((cn_le (rfl : (a2).toInt = (a2).toInt) (by decide : (3 : Int32).toInt = 3)).trans (decide_eq_true (by omega))) ?_
    refine E_iload_n rfl rfl ?_
    refine E_sipush (x := 160) rfl (by decide) ?_
    refine E_ic (t := 53) (b := false) rfl rfl ((cn_le (rfl : (a3).toInt = (a3).toInt) (by decide : (160 : Int32).toInt = 160)).trans (decide_eq_false (by omega))) ?_
    refine E_aload_n rfl rfl ?_
    refine E_bipush (x := 7) rfl (by decide) ?_
    refine E_callV (v := some (.int (-7))) (As := [.ref 0, .int 7]) (r0 := []) (cs2 := (w0.set 48 (.inl [0, 0, 0, 0, 0, 0, 0, 1]))) rfl rfl rfl (Nat.le_of_ble_eq_true rfl) rfl rfl c26_X5_refuse (by decide) (by simp only [List.length_set]) ?_
    exact E_iret rfl rfl, by
    refine Ef.in (md := mX6_row) (L := [some (.ref 65), some (.int a1), some (.int a2), some (.int a3), none]) rfl (Nat.le_of_ble_eq_true rfl) rfl ?_
    refine E_aload_n rfl rfl ?_
    refine E_iload_n rfl rfl ?_
    have e3 : Ev ab_Z0 1 131 [.ref 65, .int a1] (w0.set 48 (.inl [0, 0, 0, 0, 0, 0, 0, 1])) (some (.int 1), (w0.set 48 (.inl [0, 0, 0, 0, 0, 0, 0, 1]))) := by
      refine Ef.in (md := mX6_isShelf) (L := [some (.ref 65), some (.int a1)]) rfl (Nat.le_of_ble_eq_true rfl) rfl ?_
      refine E_iload_n rfl rfl ?_
      refine E_if (t := 14) (b := false) rfl rfl ((cn_lt (rfl : (a1).toInt = (a1).toInt) (by decide : (0 : Int32).toInt = 0)).trans (decide_eq_false (by omega))) ?_
      refine E_iload_n rfl rfl ?_
      refine E_bipush (x := 8) rfl (by decide) ?_
      refine E_ic (t := 14) (b := false) rfl rfl ((cn_ge (rfl : (a1).toInt = (a1).toInt) (by decide : (8 : Int32).toInt = 8)).trans (decide_eq_false (by omega))) ?_
      refine E_iconst (x := 1) rfl (by decide) ?_
      refine E_goto (t := 15) rfl rfl ?_
      exact E_iret rfl rfl
    refine E_callV (v := some (.int 1)) (As := [.ref 65, .int a1]) (r0 := []) (cs2 := (w0.set 48 (.inl [0, 0, 0, 0, 0, 0, 0, 1]))) rfl rfl rfl (Nat.le_of_ble_eq_true rfl) rfl rfl e3 (by decide) rfl ?_
    refine E_if (t := 14) (b := true) rfl rfl (by decide) ?_
    refine E_iload_n rfl rfl ?_
    refine E_if (t := 25) (b := true) rfl rfl ((cn_ge (rfl : (a3).toInt = (a3).toInt) (by decide : (0 : Int32).toInt = 0)).trans (decide_eq_true (by omega))) ?_
    refine E_iload_n rfl rfl ?_
    refine E_if (t := 34) (b := false) rfl rfl ((cn_lt (rfl : (a2).toInt = (a2).toInt) (by decide : (0 : Int32).toInt = 0)).trans (decide_eq_false (by omega))) ?_
    refine E_iload_n rfl rfl ?_
    refine E_iconst (x := 3) rfl (by decide) ?_
    refine E_ic (t := 41) (b := true) rfl rfl ((cn_le (rfl : (a2).toInt = (a2).toInt) (by decide : (3 : Int32).toInt = 3)).trans (decide_eq_true (by omega))) ?_
    refine E_iload_n rfl rfl ?_
    refine E_sipush (x := 160) rfl (by decide) ?_
    refine E_ic (t := 55) (b := false) rfl rfl ((cn_le (rfl : (a3).toInt = (a3).toInt) (by decide : (160 : Int32).toInt = 160)).trans (decide_eq_false (by omega))) ?_
    refine E_aload_n rfl rfl ?_
    refine E_bipush (x := (-7)) rfl (by decide) ?_
    refine E_callV (v := some (.int (-7))) (As := [.ref 65, .int (-7)]) (r0 := []) (cs2 := ((w0.set 48 (.inl [0, 0, 0, 0, 0, 0, 0, 1])).set 66 (.inl [0, 0, 0, 0, 0, 0, 0, 1]))) rfl rfl rfl (Nat.le_of_ble_eq_true rfl) rfl rfl c28_X6_no (by decide) (by simp only [List.length_set]) ?_
    exact E_iret rfl rfl, (by simp only [List.length_set]; rfl), (by simp only [List.length_set]; rfl), ((ab_szs rfl).trans ((ab_szs rfl).trans rfl)), fun _ => rfl⟩
theorem f_row_13 (a1 a2 a3 : Int32) (ha1l : (0 : Int) ≤ a1.toInt) (ha1h : a1.toInt ≤ 7) (ha2l : (4 : Int) ≤ a2.toInt) (ha3l : (0 : Int) ≤ a3.toInt) : p1_P 3 76 2 135 [.ref 0, .int a1, .int a2, .int a3] [.ref 65, .int a1, .int a2, .int a3] :=
  ⟨(-6), (w0.set 48 (.inl [0, 0, 0, 0, 0, 0, 1, 0])), ((w0.set 48 (.inl [0, 0, 0, 0, 0, 0, 1, 0])).set 66 (.inl [0, 0, 0, 0, 0, 0, 1, 0])), by
    refine Ef.in (md := mX5_row) (L := [some (.ref 0), some (.int a1), some (.int a2), some (.int a3)]) rfl (Nat.le_of_ble_eq_true rfl) rfl ?_
    refine E_iload_n rfl rfl ?_
    have e2 : Ev ab_Z0 1 117 [.int a1] w0 (some (.int 1), w0) := by
      refine Ef.in (md := mX5_isShelf) (L := [some (.int a1)]) rfl (Nat.le_of_ble_eq_true rfl) rfl ?_
      refine E_iload_n rfl rfl ?_
      refine E_if (t := 14) (b := false) rfl rfl ((cn_lt (rfl : (a1).toInt = (a1).toInt) (by decide : (0 : Int32).toInt = 0)).trans (decide_eq_false (by omega))) ?_
      refine E_iload_n rfl rfl ?_
      refine E_bipush (x := 8) rfl (by decide) ?_
      refine E_ic (t := 14) (b := false) rfl rfl ((cn_ge (rfl : (a1).toInt = (a1).toInt) (by decide : (8 : Int32).toInt = 8)).trans (decide_eq_false (by omega))) ?_
      refine E_iconst (x := 1) rfl (by decide) ?_
      refine E_goto (t := 15) rfl rfl ?_
      exact E_iret rfl rfl
    refine E_callS (v := some (.int 1)) (As := [.int a1]) (r0 := []) (cs2 := w0) rfl rfl rfl (Nat.le_of_ble_eq_true rfl) rfl e2 (by decide) rfl ?_
    refine E_if (t := 13) (b := true) rfl rfl (by decide) ?_
    refine E_iload_n rfl rfl ?_
    refine E_if (t := 23) (b := true) rfl rfl ((cn_ge (rfl : (a3).toInt = (a3).toInt) (by decide : (0 : Int32).toInt = 0)).trans (decide_eq_true (by omega))) ?_
    refine E_iload_n rfl rfl ?_
    refine E_if (t := 32) (b := false) rfl rfl ((cn_lt (rfl : (a2).toInt = (a2).toInt) (by decide : (0 : Int32).toInt = 0)).trans (decide_eq_false (by omega))) ?_
    refine E_iload_n rfl rfl ?_
    refine E_iconst (x := 3) rfl (by decide) ?_
    refine E_ic (t := 39) (b := false) rfl rfl ((cn_le (rfl : (a2).toInt = (a2).toInt) (by decide : (3 : Int32).toInt = 3)).trans (decide_eq_false (by omega))) ?_
    refine E_aload_n rfl rfl ?_
    refine E_bipush (x := 6) rfl (by decide) ?_
    refine E_callV (v := some (.int (-6))) (As := [.ref 0, .int 6]) (r0 := []) (cs2 := (w0.set 48 (.inl [0, 0, 0, 0, 0, 0, 1, 0]))) rfl rfl rfl (Nat.le_of_ble_eq_true rfl) rfl rfl c7_X5_refuse (by decide) (by simp only [List.length_set]) ?_
    exact E_iret rfl rfl, by
    refine Ef.in (md := mX6_row) (L := [some (.ref 65), some (.int a1), some (.int a2), some (.int a3), none]) rfl (Nat.le_of_ble_eq_true rfl) rfl ?_
    refine E_aload_n rfl rfl ?_
    refine E_iload_n rfl rfl ?_
    have e3 : Ev ab_Z0 1 131 [.ref 65, .int a1] (w0.set 48 (.inl [0, 0, 0, 0, 0, 0, 1, 0])) (some (.int 1), (w0.set 48 (.inl [0, 0, 0, 0, 0, 0, 1, 0]))) := by
      refine Ef.in (md := mX6_isShelf) (L := [some (.ref 65), some (.int a1)]) rfl (Nat.le_of_ble_eq_true rfl) rfl ?_
      refine E_iload_n rfl rfl ?_
      refine E_if (t := 14) (b := false) rfl rfl ((cn_lt (rfl : (a1).toInt = (a1).toInt) (by decide : (0 : Int32).toInt = 0)).trans (decide_eq_false (by omega))) ?_
      refine E_iload_n rfl rfl ?_
      refine E_bipush (x := 8) rfl (by decide) ?_
      refine E_ic (t := 14) (b := false) rfl rfl ((cn_ge (rfl : (a1).toInt = (a1).toInt) (by decide : (8 : Int32).toInt = 8)).trans (decide_eq_false (by omega))) ?_
      refine E_iconst (x := 1) rfl (by decide) ?_
      refine E_goto (t := 15) rfl rfl ?_
      exact E_iret rfl rfl
    refine E_callV (v := some (.int 1)) (As := [.ref 65, .int a1]) (r0 := []) (cs2 := (w0.set 48 (.inl [0, 0, 0, 0, 0, 0, 1, 0]))) rfl rfl rfl (Nat.le_of_ble_eq_true rfl) rfl rfl e3 (by decide) rfl ?_
    refine E_if (t := 14) (b := true) rfl rfl (by decide) ?_
    refine E_iload_n rfl rfl ?_
    refine E_if (t := 25) (b := true) rfl rfl ((cn_ge (rfl : (a3).toInt = (a3).toInt) (by decide : (0 : Int32).toInt = 0)).trans (decide_eq_true (by omega))) ?_
    refine E_iload_n rfl rfl ?_
    refine E_if (t := 34) (b := false) rfl rfl ((cn_lt (rfl : (a2).toInt = (a2).toInt) (by decide : (0 : Int32).toInt = 0)).trans (decide_eq_false (by omega))) ?_
    refine E_iload_n rfl rfl ?_
    refine E_iconst (x := 3) rfl (by decide) ?_
    refine E_ic (t := 41) (b := false) rfl rfl ((cn_le (rfl : (a2).toInt = (a2).toInt) (by decide : (3 : Int32).toInt = 3)).trans (decide_eq_false (by omega))) ?_
    refine E_aload_n rfl rfl ?_
    refine E_bipush (x := (-6)) rfl (by decide) ?_
    refine E_callV (v := some (.int (-6))) (As := [.ref 65, .int (-6)]) (r0 := []) (cs2 := ((w0.set 48 (.inl [0, 0, 0, 0, 0, 0, 1, 0])).set 66 (.inl [0, 0, 0, 0, 0, 0, 1, 0]))) rfl rfl rfl (Nat.le_of_ble_eq_true rfl) rfl rfl c9_X6_no (by decide) (by simp only [List.length_set]) ?_
    exact E_iret rfl rfl, (by simp only [List.length_set]; rfl), (by simp only [List.length_set]; rfl), ((ab_szs rfl).trans ((ab_szs rfl).trans rfl)), fun _ => rfl⟩
theorem f_row_14 (a1 a2 a3 : Int32) (ha1l : (8 : Int) ≤ a1.toInt) : p1_P 3 76 2 135 [.ref 0, .int a1, .int a2, .int a3] [.ref 65, .int a1, .int a2, .int a3] :=
  ⟨(-1), (w0.set 48 (.inl [0, 1, 0, 0, 0, 0, 0, 0])), ((w0.set 48 (.inl [0, 1, 0, 0, 0, 0, 0, 0])).set 66 (.inl [0, 1, 0, 0, 0, 0, 0, 0])), by
    refine Ef.in (md := mX5_row) (L := [some (.ref 0), some (.int a1), some (.int a2), some (.int a3)]) rfl (Nat.le_of_ble_eq_true rfl) rfl ?_
    refine E_iload_n rfl rfl ?_
    have e2 : Ev ab_Z0 1 117 [.int a1] w0 (some (.int 0), w0) := by
      refine Ef.in (md := mX5_isShelf) (L := [some (.int a1)]) rfl (Nat.le_of_ble_eq_true rfl) rfl ?_
      refine E_iload_n rfl rfl ?_
      refine E_if (t := 14) (b := false) rfl rfl ((cn_lt (rfl : (a1).toInt = (a1).toInt) (by decide : (0 : Int32).toInt = 0)).trans (decide_eq_false (by omega))) ?_
      refine E_iload_n rfl rfl ?_
      refine E_bipush (x := 8) rfl (by decide) ?_
      refine E_ic (t := 14) (b := true) rfl rfl ((cn_ge (rfl : (a1).toInt = (a1).toInt) (by decide : (8 : Int32).toInt = 8)).trans (decide_eq_true (by omega))) ?_
      refine E_iconst (x := 0) rfl (by decide) ?_
      exact E_iret rfl rfl
    refine E_callS (v := some (.int 0)) (As := [.int a1]) (r0 := []) (cs2 := w0) rfl rfl rfl (Nat.le_of_ble_eq_true rfl) rfl e2 (by decide) rfl ?_
    refine E_if (t := 13) (b := false) rfl rfl (by decide) ?_
    refine E_aload_n rfl rfl ?_
    refine E_iconst (x := 1) rfl (by decide) ?_
    refine E_callV (v := some (.int (-1))) (As := [.ref 0, .int 1]) (r0 := []) (cs2 := (w0.set 48 (.inl [0, 1, 0, 0, 0, 0, 0, 0]))) rfl rfl rfl (Nat.le_of_ble_eq_true rfl) rfl rfl c1_X5_refuse (by decide) (by simp only [List.length_set]) ?_
    exact E_iret rfl rfl, by
    refine Ef.in (md := mX6_row) (L := [some (.ref 65), some (.int a1), some (.int a2), some (.int a3), none]) rfl (Nat.le_of_ble_eq_true rfl) rfl ?_
    refine E_aload_n rfl rfl ?_
    refine E_iload_n rfl rfl ?_
    have e3 : Ev ab_Z0 1 131 [.ref 65, .int a1] (w0.set 48 (.inl [0, 1, 0, 0, 0, 0, 0, 0])) (some (.int 0), (w0.set 48 (.inl [0, 1, 0, 0, 0, 0, 0, 0]))) := by
      refine Ef.in (md := mX6_isShelf) (L := [some (.ref 65), some (.int a1)]) rfl (Nat.le_of_ble_eq_true rfl) rfl ?_
      refine E_iload_n rfl rfl ?_
      refine E_if (t := 14) (b := false) rfl rfl ((cn_lt (rfl : (a1).toInt = (a1).toInt) (by decide : (0 : Int32).toInt = 0)).trans (decide_eq_false (by omega))) ?_
      refine E_iload_n rfl rfl ?_
      refine E_bipush (x := 8) rfl (by decide) ?_
      refine E_ic (t := 14) (b := true) rfl rfl ((cn_ge (rfl : (a1).toInt = (a1).toInt) (by decide : (8 : Int32).toInt = 8)).trans (decide_eq_true (by omega))) ?_
      refine E_iconst (x := 0) rfl (by decide) ?_
      exact E_iret rfl rfl
    refine E_callV (v := some (.int 0)) (As := [.ref 65, .int a1]) (r0 := []) (cs2 := (w0.set 48 (.inl [0, 1, 0, 0, 0, 0, 0, 0]))) rfl rfl rfl (Nat.le_of_ble_eq_true rfl) rfl rfl e3 (by decide) rfl ?_
    refine E_if (t := 14) (b := false) rfl rfl (by decide) ?_
    refine E_aload_n rfl rfl ?_
    refine E_iconst (x := (-1)) rfl (by decide) ?_
    refine E_callV (v := some (.int (-1))) (As := [.ref 65, .int (-1)]) (r0 := []) (cs2 := ((w0.set 48 (.inl [0, 1, 0, 0, 0, 0, 0, 0])).set 66 (.inl [0, 1, 0, 0, 0, 0, 0, 0]))) rfl rfl rfl (Nat.le_of_ble_eq_true rfl) rfl rfl c3_X6_no (by decide) (by simp only [List.length_set]) ?_
    exact E_iret rfl rfl, (by simp only [List.length_set]; rfl), (by simp only [List.length_set]; rfl), ((ab_szs rfl).trans ((ab_szs rfl).trans rfl)), fun _ => rfl⟩
theorem f_row (a1 a2 a3 : Int32) : p1_P 3 76 2 135 [.ref 0, .int a1, .int a2, .int a3] [.ref 65, .int a1, .int a2, .int a3] := by
  rcases ab_ltge a1.toInt (0) with h | h
  · exact f_row_1 a1 a2 a3 (by omega)
  rcases ab_ltge a1.toInt (8) with h | h
  · rcases ab_ltge a3.toInt (0) with h | h
    · exact f_row_2 a1 a2 a3 (by omega) (by omega) (by omega)
    rcases ab_ltge a2.toInt (0) with h | h
    · exact f_row_3 a1 a2 a3 (by omega) (by omega) (by omega) (by omega)
    rcases ab_ltge a2.toInt (4) with h | h
    · rcases ab_ltge a3.toInt (161) with h | h
      · rcases ab_ltge a1.toInt (1) with h | h
        · obtain rfl : a1 = 0 := Int32.toInt_inj.mp (by rw [show ((0 : Int32).toInt = 0) by decide]; omega)
          exact f_row_4 a2 a3 (by omega) (by omega) (by omega) (by omega)
        rcases ab_ltge a1.toInt (2) with h | h
        · obtain rfl : a1 = 1 := Int32.toInt_inj.mp (by rw [show ((1 : Int32).toInt = 1) by decide]; omega)
          exact f_row_5 a2 a3 (by omega) (by omega) (by omega) (by omega)
        rcases ab_ltge a1.toInt (3) with h | h
        · obtain rfl : a1 = 2 := Int32.toInt_inj.mp (by rw [show ((2 : Int32).toInt = 2) by decide]; omega)
          exact f_row_6 a2 a3 (by omega) (by omega) (by omega) (by omega)
        rcases ab_ltge a1.toInt (4) with h | h
        · obtain rfl : a1 = 3 := Int32.toInt_inj.mp (by rw [show ((3 : Int32).toInt = 3) by decide]; omega)
          exact f_row_7 a2 a3 (by omega) (by omega) (by omega) (by omega)
        rcases ab_ltge a1.toInt (5) with h | h
        · obtain rfl : a1 = 4 := Int32.toInt_inj.mp (by rw [show ((4 : Int32).toInt = 4) by decide]; omega)
          exact f_row_8 a2 a3 (by omega) (by omega) (by omega) (by omega)
        rcases ab_ltge a1.toInt (6) with h | h
        · obtain rfl : a1 = 5 := Int32.toInt_inj.mp (by rw [show ((5 : Int32).toInt = 5) by decide]; omega)
          exact f_row_9 a2 a3 (by omega) (by omega) (by omega) (by omega)
        rcases ab_ltge a1.toInt (7) with h | h
        · obtain rfl : a1 = 6 := Int32.toInt_inj.mp (by rw [show ((6 : Int32).toInt = 6) by decide]; omega)
          exact f_row_10 a2 a3 (by omega) (by omega) (by omega) (by omega)
        obtain rfl : a1 = 7 := Int32.toInt_inj.mp (by rw [show ((7 : Int32).toInt = 7) by decide]; omega)
        exact f_row_11 a2 a3 (by omega) (by omega) (by omega) (by omega)
      exact f_row_12 a1 a2 a3 (by omega) (by omega) (by omega) (by omega) (by omega)
    exact f_row_13 a1 a2 a3 (by omega) (by omega) (by omega) (by omega)
  exact f_row_14 a1 a2 a3 (by omega)
