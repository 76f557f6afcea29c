theorem c203_X5_square : Ev ab_Z0 7 90 [.ref 0, .int 0] w0 (some (.int (-3)), (w0.set 48 (.inl [0, 0, 0, 1, 0, 0, 0, 0]))) := by
  refine Ef.in (md := mX5_square) (L := [some (.ref 0), some (.int 0), none, none]) rfl (Nat.le_of_ble_eq_true rfl) rfl ?_
  refine E_aload_n rfl rfl ?_
  refine E_iload_n rfl rfl ?_
  refine E_callV (v := some (.int 3)) (As := [.ref 0, .int 0]) (r0 := []) (cs2 := w0) rfl rfl rfl (Nat.le_of_ble_eq_true rfl) rfl rfl c29_X5_whyNoRow (by decide) rfl ?_
  refine E_istore_n (L2 := [some (.ref 0), some (.int 0), some (.int 3), none]) rfl rfl ?_
  refine E_iload_n rfl rfl ?_
  refine E_if (t := 16) (b := false) rfl rfl (by decide) ?_
  refine E_aload_n rfl rfl ?_
  refine E_iload_n rfl rfl ?_
  refine E_callV (v := some (.int (-3))) (As := [.ref 0, .int 3]) (r0 := []) (cs2 := (w0.set 48 (.inl [0, 0, 0, 1, 0, 0, 0, 0]))) rfl rfl rfl (Nat.le_of_ble_eq_true rfl) rfl rfl c32_X5_refuse (by decide) (by simp only [List.length_set]) ?_
  exact E_iret rfl rfl
theorem c205_X6_wanted : Ev ab_Z0 2 142 [.ref 65, .int 0] (w0.set 48 (.inl [0, 0, 0, 1, 0, 0, 0, 0])) (some (.int (-3)), (w0.set 48 (.inl [0, 0, 0, 1, 0, 0, 0, 0]))) := by
  refine Ef.in (md := mX6_wanted) (L := [some (.ref 65), some (.int 0)]) rfl (Nat.le_of_ble_eq_true rfl) rfl ?_
  refine E_aload_n rfl rfl ?_
  refine E_iload_n rfl rfl ?_
  refine E_callV (v := some (.int 1)) (As := [.ref 65, .int 0]) (r0 := []) (cs2 := (w0.set 48 (.inl [0, 0, 0, 1, 0, 0, 0, 0]))) rfl rfl rfl (Nat.le_of_ble_eq_true rfl) rfl rfl c34_X6_isShelf (by decide) rfl ?_
  refine E_if (t := 12) (b := true) rfl rfl (by decide) ?_
  refine E_aload_n rfl rfl ?_
  refine E_getfield (v := .ref 76) rfl rfl rfl (by decide) rfl ?_
  refine E_iload_n rfl rfl ?_
  refine E_iaload (x := 0) (j := 0) rfl rfl (by decide) (by decide) rfl ?_
  refine E_iconst (x := 2) rfl (by decide) ?_
  refine E_ic (t := 27) (b := true) rfl rfl (by decide) ?_
  refine E_aload_n rfl rfl ?_
  refine E_getfield (v := .ref 76) rfl rfl rfl (by decide) rfl ?_
  refine E_iload_n rfl rfl ?_
  refine E_iaload (x := 0) (j := 0) rfl rfl (by decide) (by decide) rfl ?_
  refine E_if (t := 41) (b := false) rfl rfl (by decide) ?_
  refine E_bipush (x := (-3)) rfl (by decide) ?_
  refine E_goto (t := 42) rfl rfl ?_
  exact E_iret rfl rfl
theorem c204_X6_square : Ev ab_Z0 4 165 [.ref 65, .int 0] (w0.set 48 (.inl [0, 0, 0, 1, 0, 0, 0, 0])) (some (.int (-3)), ((w0.set 48 (.inl [0, 0, 0, 1, 0, 0, 0, 0])).set 66 (.inl [0, 0, 0, 1, 0, 0, 0, 0]))) := by
  refine Ef.in (md := mX6_square) (L := [some (.ref 65), some (.int 0), none, none, none]) rfl (Nat.le_of_ble_eq_true rfl) rfl ?_
  refine E_aload_n rfl rfl ?_
  refine E_iload_n rfl rfl ?_
  refine E_callV (v := some (.int (-3))) (As := [.ref 65, .int 0]) (r0 := []) (cs2 := (w0.set 48 (.inl [0, 0, 0, 1, 0, 0, 0, 0]))) rfl rfl rfl (Nat.le_of_ble_eq_true rfl) rfl rfl c205_X6_wanted (by decide) rfl ?_
  refine E_istore_n (L2 := [some (.ref 65), some (.int 0), some (.int (-3)), none, none]) rfl rfl ?_
  refine E_iload_n rfl rfl ?_
  refine E_if (t := 16) (b := false) rfl rfl (by decide) ?_
  refine E_aload_n rfl rfl ?_
  refine E_iload_n rfl rfl ?_
  refine E_callV (v := some (.int (-3))) (As := [.ref 65, .int (-3)]) (r0 := []) (cs2 := ((w0.set 48 (.inl [0, 0, 0, 1, 0, 0, 0, 0])).set 66 (.inl [0, 0, 0, 1, 0, 0, 0, 0]))) rfl rfl rfl (Nat.le_of_ble_eq_true rfl) rfl rfl c35_X6_no (by decide) (by simp only [List.length_set]) ?_
  exact E_iret rfl rfl
theorem c206_X5_square : Ev ab_Z0 7 90 [.ref 0, .int 1] w0 (some (.int (-3)), (w0.set 48 (.inl [0, 0, 0, 1, 0, 0, 0, 0]))) := by
  refine Ef.in (md := mX5_square) (L := [some (.ref 0), some (.int 1), none, none]) rfl (Nat.le_of_ble_eq_true rfl) rfl ?_
  refine E_aload_n rfl rfl ?_
  refine E_iload_n rfl rfl ?_
  refine E_callV (v := some (.int 3)) (As := [.ref 0, .int 1]) (r0 := []) (cs2 := w0) rfl rfl rfl (Nat.le_of_ble_eq_true rfl) rfl rfl c36_X5_whyNoRow (by decide) rfl ?_
  refine E_istore_n (L2 := [some (.ref 0), some (.int 1), some (.int 3), none]) rfl rfl ?_
  refine E_iload_n rfl rfl ?_
  refine E_if (t := 16) (b := false) rfl rfl (by decide) ?_
  refine E_aload_n rfl rfl ?_
  refine E_iload_n rfl rfl ?_
  refine E_callV (v := some (.int (-3))) (As := [.ref 0, .int 3]) (r0 := []) (cs2 := (w0.set 48 (.inl [0, 0, 0, 1, 0, 0, 0, 0]))) rfl rfl rfl (Nat.le_of_ble_eq_true rfl) rfl rfl c32_X5_refuse (by decide) (by simp only [List.length_set]) ?_
  exact E_iret rfl rfl
theorem c208_X6_wanted : Ev ab_Z0 2 142 [.ref 65, .int 1] (w0.set 48 (.inl [0, 0, 0, 1, 0, 0, 0, 0])) (some (.int (-3)), (w0.set 48 (.inl [0, 0, 0, 1, 0, 0, 0, 0]))) := by
  refine Ef.in (md := mX6_wanted) (L := [some (.ref 65), some (.int 1)]) rfl (Nat.le_of_ble_eq_true rfl) rfl ?_
  refine E_aload_n rfl rfl ?_
  refine E_iload_n rfl rfl ?_
  refine E_callV (v := some (.int 1)) (As := [.ref 65, .int 1]) (r0 := []) (cs2 := (w0.set 48 (.inl [0, 0, 0, 1, 0, 0, 0, 0]))) rfl rfl rfl (Nat.le_of_ble_eq_true rfl) rfl rfl c39_X6_isShelf (by decide) rfl ?_
  refine E_if (t := 12) (b := true) rfl rfl (by decide) ?_
  refine E_aload_n rfl rfl ?_
  refine E_getfield (v := .ref 76) rfl rfl rfl (by decide) rfl ?_
  refine E_iload_n rfl rfl ?_
  refine E_iaload (x := 0) (j := 1) rfl rfl (by decide) (by decide) rfl ?_
  refine E_iconst (x := 2) rfl (by decide) ?_
  refine E_ic (t := 27) (b := true) rfl rfl (by decide) ?_
  refine E_aload_n rfl rfl ?_
  refine E_getfield (v := .ref 76) rfl rfl rfl (by decide) rfl ?_
  refine E_iload_n rfl rfl ?_
  refine E_iaload (x := 0) (j := 1) rfl rfl (by decide) (by decide) rfl ?_
  refine E_if (t := 41) (b := false) rfl rfl (by decide) ?_
  refine E_bipush (x := (-3)) rfl (by decide) ?_
  refine E_goto (t := 42) rfl rfl ?_
  exact E_iret rfl rfl
theorem c207_X6_square : Ev ab_Z0 4 165 [.ref 65, .int 1] (w0.set 48 (.inl [0, 0, 0, 1, 0, 0, 0, 0])) (some (.int (-3)), ((w0.set 48 (.inl [0, 0, 0, 1, 0, 0, 0, 0])).set 66 (.inl [0, 0, 0, 1, 0, 0, 0, 0]))) := by
  refine Ef.in (md := mX6_square) (L := [some (.ref 65), some (.int 1), none, none, none]) rfl (Nat.le_of_ble_eq_true rfl) rfl ?_
  refine E_aload_n rfl rfl ?_
  refine E_iload_n rfl rfl ?_
  refine E_callV (v := some (.int (-3))) (As := [.ref 65, .int 1]) (r0 := []) (cs2 := (w0.set 48 (.inl [0, 0, 0, 1, 0, 0, 0, 0]))) rfl rfl rfl (Nat.le_of_ble_eq_true rfl) rfl rfl c208_X6_wanted (by decide) rfl ?_
  refine E_istore_n (L2 := [some (.ref 65), some (.int 1), some (.int (-3)), none, none]) rfl rfl ?_
  refine E_iload_n rfl rfl ?_
  refine E_if (t := 16) (b := false) rfl rfl (by decide) ?_
  refine E_aload_n rfl rfl ?_
  refine E_iload_n rfl rfl ?_
  refine E_callV (v := some (.int (-3))) (As := [.ref 65, .int (-3)]) (r0 := []) (cs2 := ((w0.set 48 (.inl [0, 0, 0, 1, 0, 0, 0, 0])).set 66 (.inl [0, 0, 0, 1, 0, 0, 0, 0]))) rfl rfl rfl (Nat.le_of_ble_eq_true rfl) rfl rfl c35_X6_no (by decide) (by simp only [List.length_set]) ?_
  exact E_iret rfl rfl
theorem c209_X5_square : Ev ab_Z0 7 90 [.ref 0, .int 2] w0 (some (.int (-3)), (w0.set 48 (.inl [0, 0, 0, 1, 0, 0, 0, 0]))) := by
  refine Ef.in (md := mX5_square) (L := [some (.ref 0), some (.int 2), none, none]) rfl (Nat.le_of_ble_eq_true rfl) rfl ?_
  refine E_aload_n rfl rfl ?_
  refine E_iload_n rfl rfl ?_
  refine E_callV (v := some (.int 3)) (As := [.ref 0, .int 2]) (r0 := []) (cs2 := w0) rfl rfl rfl (Nat.le_of_ble_eq_true rfl) rfl rfl c40_X5_whyNoRow (by decide) rfl ?_
  refine E_istore_n (L2 := [some (.ref 0), some (.int 2), some (.int 3), none]) rfl rfl ?_
  refine E_iload_n rfl rfl ?_
  refine E_if (t := 16) (b := false) rfl rfl (by decide) ?_
  refine E_aload_n rfl rfl ?_
  refine E_iload_n rfl rfl ?_
  refine E_callV (v := some (.int (-3))) (As := [.ref 0, .int 3]) (r0 := []) (cs2 := (w0.set 48 (.inl [0, 0, 0, 1, 0, 0, 0, 0]))) rfl rfl rfl (Nat.le_of_ble_eq_true rfl) rfl rfl c32_X5_refuse (by decide) (by simp only [List.length_set]) ?_
  exact E_iret rfl rfl
theorem c211_X6_wanted : Ev ab_Z0 2 142 [.ref 65, .int 2] (w0.set 48 (.inl [0, 0, 0, 1, 0, 0, 0, 0])) (some (.int (-3)), (w0.set 48 (.inl [0, 0, 0, 1, 0, 0, 0, 0]))) := by
  refine Ef.in (md := mX6_wanted) (L := [some (.ref 65), some (.int 2)]) rfl (Nat.le_of_ble_eq_true rfl) rfl ?_
  refine E_aload_n rfl rfl ?_
  refine E_iload_n rfl rfl ?_
  refine E_callV (v := some (.int 1)) (As := [.ref 65, .int 2]) (r0 := []) (cs2 := (w0.set 48 (.inl [0, 0, 0, 1, 0, 0, 0, 0]))) rfl rfl rfl (Nat.le_of_ble_eq_true rfl) rfl rfl c43_X6_isShelf (by decide) rfl ?_
  refine E_if (t := 12) (b := true) rfl rfl (by decide) ?_
  refine E_aload_n rfl rfl ?_
  refine E_getfield (v := .ref 76) rfl rfl rfl (by decide) rfl ?_
  refine E_iload_n rfl rfl ?_
  refine E_iaload (x := 0) (j := 2) rfl rfl (by decide) (by decide) rfl ?_
  refine E_iconst (x := 2) rfl (by decide) ?_
  refine E_ic (t := 27) (b := true) rfl rfl (by decide) ?_
  refine E_aload_n rfl rfl ?_
  refine E_getfield (v := .ref 76) rfl rfl rfl (by decide) rfl ?_
  refine E_iload_n rfl rfl ?_
  refine E_iaload (x := 0) (j := 2) rfl rfl (by decide) (by decide) rfl ?_
  refine E_if (t := 41) (b := false) rfl rfl (by decide) ?_
  refine E_bipush (x := (-3)) rfl (by decide) ?_
  refine E_goto (t := 42) rfl rfl ?_
  exact E_iret rfl rfl
theorem c210_X6_square : Ev ab_Z0 4 165 [.ref 65, .int 2] (w0.set 48 (.inl [0, 0, 0, 1, 0, 0, 0, 0])) (some (.int (-3)), ((w0.set 48 (.inl [0, 0, 0, 1, 0, 0, 0, 0])).set 66 (.inl [0, 0, 0, 1, 0, 0, 0, 0]))) := by
  refine Ef.in (md := mX6_square) (L := [some (.ref 65), some (.int 2), none, none, none]) rfl (Nat.le_of_ble_eq_true rfl) rfl ?_
  refine E_aload_n rfl rfl ?_
  refine E_iload_n rfl rfl ?_
  refine E_callV (v := some (.int (-3))) (As := [.ref 65, .int 2]) (r0 := []) (cs2 := (w0.set 48 (.inl [0, 0, 0, 1, 0, 0, 0, 0]))) rfl rfl rfl (Nat.le_of_ble_eq_true rfl) rfl rfl c211_X6_wanted (by decide) rfl ?_
  refine E_istore_n (L2 := [some (.ref 65), some (.int 2), some (.int (-3)), none, none]) rfl rfl ?_
  refine E_iload_n rfl rfl ?_
  refine E_if (t := 16) (b := false) rfl rfl (by decide) ?_
  refine E_aload_n rfl rfl ?_
  refine E_iload_n rfl rfl ?_
  refine E_callV (v := some (.int (-3))) (As := [.ref 65, .int (-3)]) (r0 := []) (cs2 := ((w0.set 48 (.inl [0, 0, 0, 1, 0, 0, 0, 0])).set 66 (.inl [0, 0, 0, 1, 0, 0, 0, 0]))) rfl rfl rfl (Nat.le_of_ble_eq_true rfl) rfl rfl c35_X6_no (by decide) (by simp only [List.length_set]) ?_
  exact E_iret rfl rfl
theorem c212_X5_square : Ev ab_Z0 7 90 [.ref 0, .int 3] w0 (some (.int (-3)), (w0.set 48 (.inl [0, 0, 0, 1, 0, 0, 0, 0]))) := by
  refine Ef.in (md := mX5_square) (L := [some (.ref 0), some (.int 3), none, none]) rfl (Nat.le_of_ble_eq_true rfl) rfl ?_
  refine E_aload_n rfl rfl ?_
  refine E_iload_n rfl rfl ?_
  refine E_callV (v := some (.int 3)) (As := [.ref 0, .int 3]) (r0 := []) (cs2 := w0) rfl rfl rfl (Nat.le_of_ble_eq_true rfl) rfl rfl c44_X5_whyNoRow (by decide) rfl ?_
  refine E_istore_n (L2 := [some (.ref 0), some (.int 3), some (.int 3), none]) rfl rfl ?_
  refine E_iload_n rfl rfl ?_
  refine E_if (t := 16) (b := false) rfl rfl (by decide) ?_
  refine E_aload_n rfl rfl ?_
  refine E_iload_n rfl rfl ?_
  refine E_callV (v := some (.int (-3))) (As := [.ref 0, .int 3]) (r0 := []) (cs2 := (w0.set 48 (.inl [0, 0, 0, 1, 0, 0, 0, 0]))) rfl rfl rfl (Nat.le_of_ble_eq_true rfl) rfl rfl c32_X5_refuse (by decide) (by simp only [List.length_set]) ?_
  exact E_iret rfl rfl
theorem c214_X6_wanted : Ev ab_Z0 2 142 [.ref 65, .int 3] (w0.set 48 (.inl [0, 0, 0, 1, 0, 0, 0, 0])) (some (.int (-3)), (w0.set 48 (.inl [0, 0, 0, 1, 0, 0, 0, 0]))) := by
  refine Ef.in (md := mX6_wanted) (L := [some (.ref 65), some (.int 3)]) rfl (Nat.le_of_ble_eq_true rfl) rfl ?_
  refine E_aload_n rfl rfl ?_
  refine E_iload_n rfl rfl ?_
  refine E_callV (v := some (.int 1)) (As := [.ref 65, .int 3]) (r0 := []) (cs2 := (w0.set 48 (.inl [0, 0, 0, 1, 0, 0, 0, 0]))) rfl rfl rfl (Nat.le_of_ble_eq_true rfl) rfl rfl c47_X6_isShelf (by decide) rfl ?_
  refine E_if (t := 12) (b := true) rfl rfl (by decide) ?_
  refine E_aload_n rfl rfl ?_
  refine E_getfield (v := .ref 76) rfl rfl rfl (by decide) rfl ?_
  refine E_iload_n rfl rfl ?_
  refine E_iaload (x := 0) (j := 3) rfl rfl (by decide) (by decide) rfl ?_
  refine E_iconst (x := 2) rfl (by decide) ?_
  refine E_ic (t := 27) (b := true) rfl rfl (by decide) ?_
  refine E_aload_n rfl rfl ?_
  refine E_getfield (v := .ref 76) rfl rfl rfl (by decide) rfl ?_
  refine E_iload_n rfl rfl ?_
  refine E_iaload (x := 0) (j := 3) rfl rfl (by decide) (by decide) rfl ?_
  refine E_if (t := 41) (b := false) rfl rfl (by decide) ?_
  refine E_bipush (x := (-3)) rfl (by decide) ?_
  refine E_goto (t := 42) rfl rfl ?_
  exact E_iret rfl rfl
theorem c213_X6_square : Ev ab_Z0 4 165 [.ref 65, .int 3] (w0.set 48 (.inl [0, 0, 0, 1, 0, 0, 0, 0])) (some (.int (-3)), ((w0.set 48 (.inl [0, 0, 0, 1, 0, 0, 0, 0])).set 66 (.inl [0, 0, 0, 1, 0, 0, 0, 0]))) := by
  refine Ef.in (md := mX6_square) (L := [some (.ref 65), some (.int 3), none, none, none]) rfl (Nat.le_of_ble_eq_true rfl) rfl ?_
  refine E_aload_n rfl rfl ?_
  refine E_iload_n rfl rfl ?_
  refine E_callV (v := some (.int (-3))) (As := [.ref 65, .int 3]) (r0 := []) (cs2 := (w0.set 48 (.inl [0, 0, 0, 1, 0, 0, 0, 0]))) rfl rfl rfl (Nat.le_of_ble_eq_true rfl) rfl rfl c214_X6_wanted (by decide) rfl ?_
  refine E_istore_n (L2 := [some (.ref 65), some (.int 3), some (.int (-3)), none, none]) rfl rfl ?_
  refine E_iload_n rfl rfl ?_
  refine E_if (t := 16) (b := false) rfl rfl (by decide) ?_
  refine E_aload_n rfl rfl ?_
  refine E_iload_n rfl rfl ?_
  refine E_callV (v := some (.int (-3))) (As := [.ref 65, .int (-3)]) (r0 := []) (cs2 := ((w0.set 48 (.inl [0, 0, 0, 1, 0, 0, 0, 0])).set 66 (.inl [0, 0, 0, 1, 0, 0, 0, 0]))) rfl rfl rfl (Nat.le_of_ble_eq_true rfl) rfl rfl c35_X6_no (by decide) (by simp only [List.length_set]) ?_
  exact E_iret rfl rfl
theorem c215_X5_square : Ev ab_Z0 7 90 [.ref 0, .int 4] w0 (some (.int (-3)), (w0.set 48 (.inl [0, 0, 0, 1, 0, 0, 0, 0]))) := by
  refine Ef.in (md := mX5_square) (L := [some (.ref 0), some (.int 4), none, none]) rfl (Nat.le_of_ble_eq_true rfl) rfl ?_
  refine E_aload_n rfl rfl ?_
  refine E_iload_n rfl rfl ?_
  refine E_callV (v := some (.int 3)) (As := [.ref 0, .int 4]) (r0 := []) (cs2 := w0) rfl rfl rfl (Nat.le_of_ble_eq_true rfl) rfl rfl c48_X5_whyNoRow (by decide) rfl ?_
  refine E_istore_n (L2 := [some (.ref 0), some (.int 4), some (.int 3), none]) rfl rfl ?_
  refine E_iload_n rfl rfl ?_
  refine E_if (t := 16) (b := false) rfl rfl (by decide) ?_
  refine E_aload_n rfl rfl ?_
  refine E_iload_n rfl rfl ?_
  refine E_callV (v := some (.int (-3))) (As := [.ref 0, .int 3]) (r0 := []) (cs2 := (w0.set 48 (.inl [0, 0, 0, 1, 0, 0, 0, 0]))) rfl rfl rfl (Nat.le_of_ble_eq_true rfl) rfl rfl c32_X5_refuse (by decide) (by simp only [List.length_set]) ?_
  exact E_iret rfl rfl
theorem c217_X6_wanted : Ev ab_Z0 2 142 [.ref 65, .int 4] (w0.set 48 (.inl [0, 0, 0, 1, 0, 0, 0, 0])) (some (.int (-3)), (w0.set 48 (.inl [0, 0, 0, 1, 0, 0, 0, 0]))) := by
  refine Ef.in (md := mX6_wanted) (L := [some (.ref 65), some (.int 4)]) rfl (Nat.le_of_ble_eq_true rfl) rfl ?_
  refine E_aload_n rfl rfl ?_
  refine E_iload_n rfl rfl ?_
  refine E_callV (v := some (.int 1)) (As := [.ref 65, .int 4]) (r0 := []) (cs2 := (w0.set 48 (.inl [0, 0, 0, 1, 0, 0, 0, 0]))) rfl rfl rfl (Nat.le_of_ble_eq_true rfl) rfl rfl c51_X6_isShelf (by decide) rfl ?_
  refine E_if (t := 12) (b := true) rfl rfl (by decide) ?_
  refine E_aload_n rfl rfl ?_
  refine E_getfield (v := .ref 76) rfl rfl rfl (by decide) rfl ?_
  refine E_iload_n rfl rfl ?_
  refine E_iaload (x := 0) (j := 4) rfl rfl (by decide) (by decide) rfl ?_
  refine E_iconst (x := 2) rfl (by decide) ?_
  refine E_ic (t := 27) (b := true) rfl rfl (by decide) ?_
  refine E_aload_n rfl rfl ?_
  refine E_getfield (v := .ref 76) rfl rfl rfl (by decide) rfl ?_
  refine E_iload_n rfl rfl ?_
  refine E_iaload (x := 0) (j := 4) rfl rfl (by decide) (by decide) rfl ?_
  refine E_if (t := 41) (b := false) rfl rfl (by decide) ?_
  refine E_bipush (x := (-3)) rfl (by decide) ?_
  refine E_goto (t := 42) rfl rfl ?_
  exact E_iret rfl rfl
theorem c216_X6_square : Ev ab_Z0 4 165 [.ref 65, .int 4] (w0.set 48 (.inl [0, 0, 0, 1, 0, 0, 0, 0])) (some (.int (-3)), ((w0.set 48 (.inl [0, 0, 0, 1, 0, 0, 0, 0])).set 66 (.inl [0, 0, 0, 1, 0, 0, 0, 0]))) := by
  refine Ef.in (md := mX6_square) (L := [some (.ref 65), some (.int 4), none, none, none]) rfl (Nat.le_of_ble_eq_true rfl) rfl ?_
  refine E_aload_n rfl rfl ?_
  refine E_iload_n rfl rfl ?_
  refine E_callV (v := some (.int (-3))) (As := [.ref 65, .int 4]) (r0 := []) (cs2 := (w0.set 48 (.inl [0, 0, 0, 1, 0, 0, 0, 0]))) rfl rfl rfl (Nat.le_of_ble_eq_true rfl) rfl rfl c217_X6_wanted (by decide) rfl ?_
  refine E_istore_n (L2 := [some (.ref 65), some (.int 4), some (.int (-3)), none, none]) rfl rfl ?_
  refine E_iload_n rfl rfl ?_
  refine E_if (t := 16) (b := false) rfl rfl (by decide) ?_
  refine E_aload_n rfl rfl ?_
  refine E_iload_n rfl rfl ?_
  refine E_callV (v := some (.int (-3))) (As := [.ref 65, .int (-3)]) (r0 := []) (cs2 := ((w0.set 48 (.inl [0, 0, 0, 1, 0, 0, 0, 0])).set 66 (.inl [0, 0, 0, 1, 0, 0, 0, 0]))) rfl rfl rfl (Nat.le_of_ble_eq_true rfl) rfl rfl c35_X6_no (by decide) (by simp only [List.length_set]) ?_
  exact E_iret rfl rfl
theorem c218_X5_square : Ev ab_Z0 7 90 [.ref 0, .int 5] w0 (some (.int (-3)), (w0.set 48 (.inl [0, 0, 0, 1, 0, 0, 0, 0]))) := by
  refine Ef.in (md := mX5_square) (L := [some (.ref 0), some (.int 5), none, none]) rfl (Nat.le_of_ble_eq_true rfl) rfl ?_
  refine E_aload_n rfl rfl ?_
  refine E_iload_n rfl rfl ?_
  refine E_callV (v := some (.int 3)) (As := [.ref 0, .int 5]) (r0 := []) (cs2 := w0) rfl rfl rfl (Nat.le_of_ble_eq_true rfl) rfl rfl c52_X5_whyNoRow (by decide) rfl ?_
  refine E_istore_n (L2 := [some (.ref 0), some (.int 5), some (.int 3), none]) rfl rfl ?_
  refine E_iload_n rfl rfl ?_
  refine E_if (t := 16) (b := false) rfl rfl (by decide) ?_
  refine E_aload_n rfl rfl ?_
  refine E_iload_n rfl rfl ?_
  refine E_callV (v := some (.int (-3))) (As := [.ref 0, .int 3]) (r0 := []) (cs2 := (w0.set 48 (.inl [0, 0, 0, 1, 0, 0, 0, 0]))) rfl rfl rfl (Nat.le_of_ble_eq_true rfl) rfl rfl c32_X5_refuse (by decide) (by simp only [List.length_set]) ?_
  exact E_iret rfl rfl
theorem c220_X6_wanted : Ev ab_Z0 2 142 [.ref 65, .int 5] (w0.set 48 (.inl [0, 0, 0, 1, 0, 0, 0, 0])) (some (.int (-3)), (w0.set 48 (.inl [0, 0, 0, 1, 0, 0, 0, 0]))) := by
  refine Ef.in (md := mX6_wanted) (L := [some (.ref 65), some (.int 5)]) rfl (Nat.le_of_ble_eq_true rfl) rfl ?_
  refine E_aload_n rfl rfl ?_
  refine E_iload_n rfl rfl ?_
  refine E_callV (v := some (.int 1)) (As := [.ref 65, .int 5]) (r0 := []) (cs2 := (w0.set 48 (.inl [0, 0, 0, 1, 0, 0, 0, 0]))) rfl rfl rfl (Nat.le_of_ble_eq_true rfl) rfl rfl c55_X6_isShelf (by decide) rfl ?_
  refine E_if (t := 12) (b := true) rfl rfl (by decide) ?_
  refine E_aload_n rfl rfl ?_
  refine E_getfield (v := .ref 76) rfl rfl rfl (by decide) rfl ?_
  refine E_iload_n rfl rfl ?_
  refine E_iaload (x := 0) (j := 5) rfl rfl (by decide) (by decide) rfl ?_
  refine E_iconst (x := 2) rfl (by decide) ?_
  refine E_ic (t := 27) (b := true) rfl rfl (by decide) ?_
  refine E_aload_n rfl rfl ?_
  refine E_getfield (v := .ref 76) rfl rfl rfl (by decide) rfl ?_
  refine E_iload_n rfl rfl ?_
  refine E_iaload (x := 0) (j := 5) rfl rfl (by decide) (by decide) rfl ?_
  refine E_if (t := 41) (b := false) rfl rfl (by decide) ?_
  refine E_bipush (x := (-3)) rfl (by decide) ?_
  refine E_goto (t := 42) rfl rfl ?_
  exact E_iret rfl rfl
theorem c219_X6_square : Ev ab_Z0 4 165 [.ref 65, .int 5] (w0.set 48 (.inl [0, 0, 0, 1, 0, 0, 0, 0])) (some (.int (-3)), ((w0.set 48 (.inl [0, 0, 0, 1, 0, 0, 0, 0])).set 66 (.inl [0, 0, 0, 1, 0, 0, 0, 0]))) := by
  refine Ef.in (md := mX6_square) (L := [some (.ref 65), some (.int 5), none, none, none]) rfl (Nat.le_of_ble_eq_true rfl) rfl ?_
  refine E_aload_n rfl rfl ?_
  refine E_iload_n rfl rfl ?_
  refine E_callV (v := some (.int (-3))) (As := [.ref 65, .int 5]) (r0 := []) (cs2 := (w0.set 48 (.inl [0, 0, 0, 1, 0, 0, 0, 0]))) rfl rfl rfl (Nat.le_of_ble_eq_true rfl) rfl rfl c220_X6_wanted (by decide) rfl ?_
  refine E_istore_n (L2 := [some (.ref 65), some (.int 5), some (.int (-3)), none, none]) rfl rfl ?_
  refine E_iload_n rfl rfl ?_
  refine E_if (t := 16) (b := false) rfl rfl (by decide) ?_
  refine E_aload_n rfl rfl ?_
  refine E_iload_n rfl rfl ?_
  refine E_callV (v := some (.int (-3))) (As := [.ref 65, .int (-3)]) (r0 := []) (cs2 := ((w0.set 48 (.inl [0, 0, 0, 1, 0, 0, 0, 0])).set 66 (.inl [0, 0, 0, 1, 0, 0, 0, 0]))) rfl rfl rfl (Nat.le_of_ble_eq_true rfl) rfl rfl c35_X6_no (by decide) (by simp only [List.length_set]) ?_
  exact E_iret rfl rfl
theorem c221_X5_square : Ev ab_Z0 7 90 [.ref 0, .int 6] w0 (some (.int (-3)), (w0.set 48 (.inl [0, 0, 0, 1, 0, 0, 0, 0]))) := by
  refine Ef.in (md := mX5_square) (L := [some (.ref 0), some (.int 6), none, none]) rfl (Nat.le_of_ble_eq_true rfl) rfl ?_
  refine E_aload_n rfl rfl ?_
  refine E_iload_n rfl rfl ?_
  refine E_callV (v := some (.int 3)) (As := [.ref 0, .int 6]) (r0 := []) (cs2 := w0) rfl rfl rfl (Nat.le_of_ble_eq_true rfl) rfl rfl c56_X5_whyNoRow (by decide) rfl ?_
  refine E_istore_n (L2 := [some (.ref 0), some (.int 6), some (.int 3), none]) rfl rfl ?_
  refine E_iload_n rfl rfl ?_
  refine E_if (t := 16) (b := false) rfl rfl (by decide) ?_
  refine E_aload_n rfl rfl ?_
  refine E_iload_n rfl rfl ?_
  refine E_callV (v := some (.int (-3))) (As := [.ref 0, .int 3]) (r0 := []) (cs2 := (w0.set 48 (.inl [0, 0, 0, 1, 0, 0, 0, 0]))) rfl rfl rfl (Nat.le_of_ble_eq_true rfl) rfl rfl c32_X5_refuse (by decide) (by simp only [List.length_set]) ?_
  exact E_iret rfl rfl
theorem c223_X6_wanted : Ev ab_Z0 2 142 [.ref 65, .int 6] (w0.set 48 (.inl [0, 0, 0, 1, 0, 0, 0, 0])) (some (.int (-3)), (w0.set 48 (.inl [0, 0, 0, 1, 0, 0, 0, 0]))) := by
  refine Ef.in (md := mX6_wanted) (L := [some (.ref 65), some (.int 6)]) rfl (Nat.le_of_ble_eq_true rfl) rfl ?_
  refine E_aload_n rfl rfl ?_
  refine E_iload_n rfl rfl ?_
  refine E_callV (v := some (.int 1)) (As := [.ref 65, .int 6]) (r0 := []) (cs2 := (w0.set 48 (.inl [0, 0, 0, 1, 0, 0, 0, 0]))) rfl rfl rfl (Nat.le_of_ble_eq_true rfl) rfl rfl c59_X6_isShelf (by decide) rfl ?_
  refine E_if (t := 12) (b := true) rfl rfl (by decide) ?_
  refine E_aload_n rfl rfl ?_
  refine E_getfield (v := .ref 76) rfl rfl rfl (by decide) rfl ?_
  refine E_iload_n rfl rfl ?_
  refine E_iaload (x := 0) (j := 6) rfl rfl (by decide) (by decide) rfl ?_
  refine E_iconst (x := 2) rfl (by decide) ?_
  refine E_ic (t := 27) (b := true) rfl rfl (by decide) ?_
  refine E_aload_n rfl rfl ?_
  refine E_getfield (v := .ref 76) rfl rfl rfl (by decide) rfl ?_
  refine E_iload_n rfl rfl ?_
  refine E_iaload (x := 0) (j := 6) rfl rfl (by decide) (by decide) rfl ?_
  refine E_if (t := 41) (b := false) rfl rfl (by decide) ?_
  refine E_bipush (x := (-3)) rfl (by decide) ?_
  refine E_goto (t := 42) rfl rfl ?_
  exact E_iret rfl rfl
theorem c222_X6_square : Ev ab_Z0 4 165 [.ref 65, .int 6] (w0.set 48 (.inl [0, 0, 0, 1, 0, 0, 0, 0])) (some (.int (-3)), ((w0.set 48 (.inl [0, 0, 0, 1, 0, 0, 0, 0])).set 66 (.inl [0, 0, 0, 1, 0, 0, 0, 0]))) := by
  refine Ef.in (md := mX6_square) (L := [some (.ref 65), some (.int 6), none, none, none]) rfl (Nat.le_of_ble_eq_true rfl) rfl ?_
  refine E_aload_n rfl rfl ?_
  refine E_iload_n rfl rfl ?_
  refine E_callV (v := some (.int (-3))) (As := [.ref 65, .int 6]) (r0 := []) (cs2 := (w0.set 48 (.inl [0, 0, 0, 1, 0, 0, 0, 0]))) rfl rfl rfl (Nat.le_of_ble_eq_true rfl) rfl rfl c223_X6_wanted (by decide) rfl ?_
  refine E_istore_n (L2 := [some (.ref 65), some (.int 6), some (.int (-3)), none, none]) rfl rfl ?_
  refine E_iload_n rfl rfl ?_
  refine E_if (t := 16) (b := false) rfl rfl (by decide) ?_
  refine E_aload_n rfl rfl ?_
  refine E_iload_n rfl rfl ?_
  refine E_callV (v := some (.int (-3))) (As := [.ref 65, .int (-3)]) (r0 := []) (cs2 := ((w0.set 48 (.inl [0, 0, 0, 1, 0, 0, 0, 0])).set 66 (.inl [0, 0, 0, 1, 0, 0, 0, 0]))) rfl rfl rfl (Nat.le_of_ble_eq_true rfl) rfl rfl c35_X6_no (by decide) (by simp only [List.length_set]) ?_
  exact E_iret rfl rfl
theorem c224_X5_square : Ev ab_Z0 7 90 [.ref 0, .int 7] w0 (some (.int (-3)), (w0.set 48 (.inl [0, 0, 0, 1, 0, 0, 0, 0]))) := by
  refine Ef.in (md := mX5_square) (L := [some (.ref 0), some (.int 7), none, none]) rfl (Nat.le_of_ble_eq_true rfl) rfl ?_
  refine E_aload_n rfl rfl ?_
  refine E_iload_n rfl rfl ?_
  refine E_callV (v := some (.int 3)) (As := [.ref 0, .int 7]) (r0 := []) (cs2 := w0) rfl rfl rfl (Nat.le_of_ble_eq_true rfl) rfl rfl c60_X5_whyNoRow (by decide) rfl ?_
  refine E_istore_n (L2 := [some (.ref 0), some (.int 7), some (.int 3), none]) rfl rfl ?_
  refine E_iload_n rfl rfl ?_
  refine E_if (t := 16) (b := false) rfl rfl (by decide) ?_
  refine E_aload_n rfl rfl ?_
  refine E_iload_n rfl rfl ?_
  refine E_callV (v := some (.int (-3))) (As := [.ref 0, .int 3]) (r0 := []) (cs2 := (w0.set 48 (.inl [0, 0, 0, 1, 0, 0, 0, 0]))) rfl rfl rfl (Nat.le_of_ble_eq_true rfl) rfl rfl c32_X5_refuse (by decide) (by simp only [List.length_set]) ?_
  exact E_iret rfl rfl
theorem c226_X6_wanted : Ev ab_Z0 2 142 [.ref 65, .int 7] (w0.set 48 (.inl [0, 0, 0, 1, 0, 0, 0, 0])) (some (.int (-3)), (w0.set 48 (.inl [0, 0, 0, 1, 0, 0, 0, 0]))) := by
  refine Ef.in (md := mX6_wanted) (L := [some (.ref 65), some (.int 7)]) rfl (Nat.le_of_ble_eq_true rfl) rfl ?_
  refine E_aload_n rfl rfl ?_
  refine E_iload_n rfl rfl ?_
  refine E_callV (v := some (.int 1)) (As := [.ref 65, .int 7]) (r0 := []) (cs2 := (w0.set 48 (.inl [0, 0, 0, 1, 0, 0, 0, 0]))) rfl rfl rfl (Nat.le_of_ble_eq_true rfl) rfl rfl c63_X6_isShelf (by decide) rfl ?_
  refine E_if (t := 12) (b := true) rfl rfl (by decide) ?_
  refine E_aload_n rfl rfl ?_
  refine E_getfield (v := .ref 76) rfl rfl rfl (by decide) rfl ?_
  refine E_iload_n rfl rfl ?_
  refine E_iaload (x := 0) (j := 7) rfl rfl (by decide) (by decide) rfl ?_
  refine E_iconst (x := 2) rfl (by decide) ?_
  refine E_ic (t := 27) (b := true) rfl rfl (by decide) ?_
  refine E_aload_n rfl rfl ?_
  refine E_getfield (v := .ref 76) rfl rfl rfl (by decide) rfl ?_
  refine E_iload_n rfl rfl ?_
  refine E_iaload (x := 0) (j := 7) rfl rfl (by decide) (by decide) rfl ?_
  refine E_if (t := 41) (b := false) rfl rfl (by decide) ?_
  refine E_bipush (x := (-3)) rfl (by decide) ?_
  refine E_goto (t := 42) rfl rfl ?_
  exact E_iret rfl rfl
theorem c225_X6_square : Ev ab_Z0 4 165 [.ref 65, .int 7] (w0.set 48 (.inl [0, 0, 0, 1, 0, 0, 0, 0])) (some (.int (-3)), ((w0.set 48 (.inl [0, 0, 0, 1, 0, 0, 0, 0])).set 66 (.inl [0, 0, 0, 1, 0, 0, 0, 0]))) := by
  refine Ef.in (md := mX6_square) (L := [some (.ref 65), some (.int 7), none, none, none]) rfl (Nat.le_of_ble_eq_true rfl) rfl ?_
  refine E_aload_n rfl rfl ?_
  refine E_iload_n rfl rfl ?_
  refine E_callV (v := some (.int (-3))) (As := [.ref 65, .int 7]) (r0 := []) (cs2 := (w0.set 48 (.inl [0, 0, 0, 1, 0, 0, 0, 0]))) rfl rfl rfl (Nat.le_of_ble_eq_true rfl) rfl rfl c226_X6_wanted (by decide) rfl ?_
  refine E_istore_n (L2 := [some (.ref 65), some (.int 7), some (.int (-3)), none, none]) rfl rfl ?_
  refine E_iload_n rfl rfl ?_
  refine E_if (t := 16) (b := false) rfl rfl (by decide) ?_
  refine E_aload_n rfl rfl ?_
  refine E_iload_n rfl rfl ?_
  refine E_callV (v := some (.int (-3))) (As := [.ref 65, .int (-3)]) (r0 := []) (cs2 := ((w0.set 48 (.inl [0, 0, 0, 1, 0, 0, 0, 0])).set 66 (.inl [0, 0, 0, 1, 0, 0, 0, 0]))) rfl rfl rfl (Nat.le_of_ble_eq_true rfl) rfl rfl c35_X6_no (by decide) (by simp only [List.length_set]) ?_
  exact E_iret rfl rfl
theorem f_square_1 (a1 : Int32) (ha1h : a1.toInt ≤ -1) : p1_P 7 90 4 165 [.ref 0, .int a1] [.ref 65, .int a1] :=
  ⟨(-1), (w0.set 48 (.inl [0, 1, 0, 0, 0, 0, 0, 0])), ((w0.set 48 (.inl [0, 1, 0, 0, 0, 0, 0, 0])).set 66 (.inl [0, 1, 0, 0, 0, 0, 0, 0])), by
    refine Ef.in (md := mX5_square) (L := [some (.ref 0), some (.int a1), none, none]) rfl (Nat.le_of_ble_eq_true rfl) rfl ?_
    refine E_aload_n rfl rfl ?_
    refine E_iload_n rfl rfl ?_
    have e3 : Ev ab_Z0 2 119 [.ref 0, .int a1] w0 (some (.int 1), w0) := by
      refine Ef.in (md := mX5_whyNoRow) (L := [some (.ref 0), some (.int a1)]) rfl (Nat.le_of_ble_eq_true rfl) rfl ?_
      refine E_iload_n rfl rfl ?_
      have e2 : Ev ab_Z0 1 117 [.int a1] w0 (some (.int 0), w0) := by
        refine Ef.in (md := mX5_isShelf) (L := [some (.int a1)]) rfl (Nat.le_of_ble_eq_true rfl) rfl ?_
        refine E_iload_n rfl rfl ?_
        refine E_if (t := 14) (b := true) rfl rfl ((cn_lt (rfl : (a1).toInt = (a1).toInt) (by decide : (0 : Int32).toInt = 0)).trans (decide_eq_true (by omega))) ?_
        refine E_iconst (x := 0) rfl (by decide) ?_
        exact E_iret rfl rfl
      refine E_callS (v := some (.int 0)) (As := [.int a1]) (r0 := []) (cs2 := w0) rfl rfl rfl (Nat.le_of_ble_eq_true rfl) rfl e2 (by decide) rfl ?_
      refine E_if (t := 9) (b := false) rfl rfl (by decide) ?_
      refine E_iconst (x := 1) rfl (by decide) ?_
      exact E_iret rfl rfl
    refine E_callV (v := some (.int 1)) (As := [.ref 0, .int a1]) (r0 := []) (cs2 := w0) rfl rfl rfl (Nat.le_of_ble_eq_true rfl) rfl rfl e3 (by decide) rfl ?_
    refine E_istore_n (L2 := [some (.ref 0), some (.int a1), some (.int 1), none]) rfl rfl ?_
    refine E_iload_n rfl rfl ?_
    refine E_if (t := 16) (b := false) rfl rfl (by decide) ?_
    refine E_aload_n rfl rfl ?_
    refine E_iload_n rfl rfl ?_
    refine E_callV (v := some (.int (-1))) (As := [.ref 0, .int 1]) (r0 := []) (cs2 := (w0.set 48 (.inl [0, 1, 0, 0, 0, 0, 0, 0]))) rfl rfl rfl (Nat.le_of_ble_eq_true rfl) rfl rfl c1_X5_refuse (by decide) (by simp only [List.length_set]) ?_
    exact E_iret rfl rfl, by
    refine Ef.in (md := mX6_square) (L := [some (.ref 65), some (.int a1), none, none, none]) rfl (Nat.le_of_ble_eq_true rfl) rfl ?_
    refine E_aload_n rfl rfl ?_
    refine E_iload_n rfl rfl ?_
    have e3 : Ev ab_Z0 2 142 [.ref 65, .int a1] (w0.set 48 (.inl [0, 1, 0, 0, 0, 0, 0, 0])) (some (.int (-1)), (w0.set 48 (.inl [0, 1, 0, 0, 0, 0, 0, 0]))) := by
      refine Ef.in (md := mX6_wanted) (L := [some (.ref 65), some (.int a1)]) rfl (Nat.le_of_ble_eq_true rfl) rfl ?_
      refine E_aload_n rfl rfl ?_
      refine E_iload_n rfl rfl ?_
      have e3 : Ev ab_Z0 1 131 [.ref 65, .int a1] (w0.set 48 (.inl [0, 1, 0, 0, 0, 0, 0, 0])) (some (.int 0), (w0.set 48 (.inl [0, 1, 0, 0, 0, 0, 0, 0]))) := by
        refine Ef.in (md := mX6_isShelf) (L := [some (.ref 65), some (.int a1)]) rfl (Nat.le_of_ble_eq_true rfl) rfl ?_
        refine E_iload_n rfl rfl ?_
        refine E_if (t := 14) (b := true) rfl rfl ((cn_lt (rfl : (a1).toInt = (a1).toInt) (by decide : (0 : Int32).toInt = 0)).trans (decide_eq_true (by omega))) ?_
        refine E_iconst (x := 0) rfl (by decide) ?_
        exact E_iret rfl rfl
      refine E_callV (v := some (.int 0)) (As := [.ref 65, .int a1]) (r0 := []) (cs2 := (w0.set 48 (.inl [0, 1, 0, 0, 0, 0, 0, 0]))) rfl rfl rfl (Nat.le_of_ble_eq_true rfl) rfl rfl e3 (by decide) rfl ?_
      refine E_if (t := 12) (b := false) rfl rfl (by decide) ?_
      refine E_iconst (x := (-1)) rfl (by decide) ?_
      refine E_goto (t := 42) rfl rfl ?_
      exact E_iret rfl rfl
    refine E_callV (v := some (.int (-1))) (As := [.ref 65, .int a1]) (r0 := []) (cs2 := (w0.set 48 (.inl [0, 1, 0, 0, 0, 0, 0, 0]))) rfl rfl rfl (Nat.le_of_ble_eq_true rfl) rfl rfl e3 (by decide) rfl ?_
    refine E_istore_n (L2 := [some (.ref 65), some (.int a1), some (.int (-1)), none, none]) rfl rfl ?_
    refine E_iload_n rfl rfl ?_
    refine E_if (t := 16) (b := false) rfl rfl (by decide) ?_
    refine E_aload_n rfl rfl ?_
    refine E_iload_n rfl rfl ?_
    refine E_callV (v := some (.int (-1))) (As := [.ref 65, .int (-1)]) (r0 := []) (cs2 := ((w0.set 48 (.inl [0, 1, 0, 0, 0, 0, 0, 0])).set 66 (.inl [0, 1, 0, 0, 0, 0, 0, 0]))) rfl rfl rfl (Nat.le_of_ble_eq_true rfl) rfl rfl c3_X6_no (by decide) (by simp only [List.length_set]) ?_
    exact E_iret rfl rfl, (by simp only [List.length_set]; rfl), (by simp only [List.length_set]; rfl), ((ab_szs rfl).trans ((ab_szs rfl).trans rfl)), fun _ => rfl⟩
theorem f_square_2 : p1_P 7 90 4 165 [.ref 0, .int 0] [.ref 65, .int 0] :=
  ⟨(-3), (w0.set 48 (.inl [0, 0, 0, 1, 0, 0, 0, 0])), ((w0.set 48 (.inl [0, 0, 0, 1, 0, 0, 0, 0])).set 66 (.inl [0, 0, 0, 1, 0, 0, 0, 0])), by
    exact c203_X5_square, by
    exact c204_X6_square, (by simp only [List.length_set]; rfl), (by simp only [List.length_set]; rfl), ((ab_szs rfl).trans ((ab_szs rfl).trans rfl)), fun _ => rfl⟩
theorem f_square_3 : p1_P 7 90 4 165 [.ref 0, .int 1] [.ref 65, .int 1] :=
  ⟨(-3), (w0.set 48 (.inl [0, 0, 0, 1, 0, 0, 0, 0])), ((w0.set 48 (.inl [0, 0, 0, 1, 0, 0, 0, 0])).set 66 (.inl [0, 0, 0, 1, 0, 0, 0, 0])), by
    exact c206_X5_square, by
    exact c207_X6_square, (by simp only [List.length_set]; rfl), (by simp only [List.length_set]; rfl), ((ab_szs rfl).trans ((ab_szs rfl).trans rfl)), fun _ => rfl⟩
theorem f_square_4 : p1_P 7 90 4 165 [.ref 0, .int 2] [.ref 65, .int 2] :=
  ⟨(-3), (w0.set 48 (.inl [0, 0, 0, 1, 0, 0, 0, 0])), ((w0.set 48 (.inl [0, 0, 0, 1, 0, 0, 0, 0])).set 66 (.inl [0, 0, 0, 1, 0, 0, 0, 0])), by
    exact c209_X5_square, by
    exact c210_X6_square, (by simp only [List.length_set]; rfl), (by simp only [List.length_set]; rfl), ((ab_szs rfl).trans ((ab_szs rfl).trans rfl)), fun _ => rfl⟩
theorem f_square_5 : p1_P 7 90 4 165 [.ref 0, .int 3] [.ref 65, .int 3] :=
  ⟨(-3), (w0.set 48 (.inl [0, 0, 0, 1, 0, 0, 0, 0])), ((w0.set 48 (.inl [0, 0, 0, 1, 0, 0, 0, 0])).set 66 (.inl [0, 0, 0, 1, 0, 0, 0, 0])), by
    exact c212_X5_square, by
    exact c213_X6_square, (by simp only [List.length_set]; rfl), (by simp only [List.length_set]; rfl), ((ab_szs rfl).trans ((ab_szs rfl).trans rfl)), fun _ => rfl⟩
theorem f_square_6 : p1_P 7 90 4 165 [.ref 0, .int 4] [.ref 65, .int 4] :=
  ⟨(-3), (w0.set 48 (.inl [0, 0, 0, 1, 0, 0, 0, 0])), ((w0.set 48 (.inl [0, 0, 0, 1, 0, 0, 0, 0])).set 66 (.inl [0, 0, 0, 1, 0, 0, 0, 0])), by
    exact c215_X5_square, by
    exact c216_X6_square, (by simp only [List.length_set]; rfl), (by simp only [List.length_set]; rfl), ((ab_szs rfl).trans ((ab_szs rfl).trans rfl)), fun _ => rfl⟩
theorem f_square_7 : p1_P 7 90 4 165 [.ref 0, .int 5] [.ref 65, .int 5] :=
  ⟨(-3), (w0.set 48 (.inl [0, 0, 0, 1, 0, 0, 0, 0])), ((w0.set 48 (.inl [0, 0, 0, 1, 0, 0, 0, 0])).set 66 (.inl [0, 0, 0, 1, 0, 0, 0, 0])), by
    exact c218_X5_square, by
    exact c219_X6_square, (by simp only [List.length_set]; rfl), (by simp only [List.length_set]; rfl), ((ab_szs rfl).trans ((ab_szs rfl).trans rfl)), fun _ => rfl⟩
theorem f_square_8 : p1_P 7 90 4 165 [.ref 0, .int 6] [.ref 65, .int 6] :=
  ⟨(-3), (w0.set 48 (.inl [0, 0, 0, 1, 0, 0, 0, 0])), ((w0.set 48 (.inl [0, 0, 0, 1, 0, 0, 0, 0])).set 66 (.inl [0, 0, 0, 1, 0, 0, 0, 0])), by
    exact c221_X5_square, by
    exact c222_X6_square, (by simp only [List.length_set]; rfl), (by simp only [List.length_set]; rfl), ((ab_szs rfl).trans ((ab_szs rfl).trans rfl)), fun _ => rfl⟩
theorem f_square_9 : p1_P 7 90 4 165 [.ref 0, .int 7] [.ref 65, .int 7] :=
  ⟨(-3), (w0.set 48 (.inl [0, 0, 0, 1, 0, 0, 0, 0])), ((w0.set 48 (.inl [0, 0, 0, 1, 0, 0, 0, 0])).set 66 (.inl [0, 0, 0, 1, 0, 0, 0, 0])), by
    exact c224_X5_square, by
    exact c225_X6_square, (by simp only [List.length_set]; rfl), (by simp only [List.length_set]; rfl), ((ab_szs rfl).trans ((ab_szs rfl).trans rfl)), fun _ => rfl⟩
theorem f_square_10 (a1 : Int32) (ha1l : (8 : Int) ≤ a1.toInt) : p1_P 7 90 4 165 [.ref 0, .int a1] [.ref 65, .int a1] :=
  ⟨(-1), (w0.set 48 (.inl [0, 1, 0, 0, 0, 0, 0, 0])), ((w0.set 48 (.inl [0, 1, 0, 0, 0, 0, 0, 0])).set 66 (.inl [0, 1, 0, 0, 0, 0, 0, 0])), by
    refine Ef.in (md := mX5_square) (L := [some (.ref 0), some (.int a1), none, none]) rfl (Nat.le_of_ble_eq_true rfl) rfl ?_
    refine E_aload_n rfl rfl ?_
    refine E_iload_n rfl rfl ?_
    have e3 : Ev ab_Z0 2 119 [.ref 0, .int a1] w0 (some (.int 1), w0) := by
      refine Ef.in (md := mX5_whyNoRow) (L := [some (.ref 0), some (.int a1)]) rfl (Nat.le_of_ble_eq_true rfl) rfl ?_
      refine E_iload_n rfl rfl ?_
      have e2 : Ev ab_Z0 1 117 [.int a1] w0 (some (.int 0), w0) := by
        refine Ef.in (md := mX5_isShelf) (L := [some (.int a1)]) rfl (Nat.le_of_ble_eq_true rfl) rfl ?_
        refine E_iload_n rfl rfl ?_
        refine E_if (t := 14) (b := false) rfl rfl ((cn_lt (rfl : (a1).toInt = (a1).toInt) (by decide : (0 : Int32).toInt = 0)).trans (decide_eq_false (by omega))) ?_
        refine E_iload_n rfl rfl ?_
        refine E_bipush (x := 8) rfl (by decide) ?_
        refine E_ic (t := 14) (b := true) rfl rfl ((cn_ge (rfl : (a1).toInt = (a1).toInt) (by decide : (8 : Int32).toInt = 8)).trans (decide_eq_true (by omega))) ?_
        refine E_iconst (x := 0) rfl (by decide) ?_
        exact E_iret rfl rfl
      refine E_callS (v := some (.int 0)) (As := [.int a1]) (r0 := []) (cs2 := w0) rfl rfl rfl (Nat.le_of_ble_eq_true rfl) rfl e2 (by decide) rfl ?_
      refine E_if (t := 9) (b := false) rfl rfl (by decide) ?_
      refine E_iconst (x := 1) rfl (by decide) ?_
      exact E_iret rfl rfl
    refine E_callV (v := some (.int 1)) (As := [.ref 0, .int a1]) (r0 := []) (cs2 := w0) rfl rfl rfl (Nat.le_of_ble_eq_true rfl) rfl rfl e3 (by decide) rfl ?_
    refine E_istore_n (L2 := [some (.ref 0), some (.int a1), some (.int 1), none]) rfl rfl ?_
    refine E_iload_n rfl rfl ?_
    refine E_if (t := 16) (b := false) rfl rfl (by decide) ?_
    refine E_aload_n rfl rfl ?_
    refine E_iload_n rfl rfl ?_
    refine E_callV (v := some (.int (-1))) (As := [.ref 0, .int 1]) (r0 := []) (cs2 := (w0.set 48 (.inl [0, 1, 0, 0, 0, 0, 0, 0]))) rfl rfl rfl (Nat.le_of_ble_eq_true rfl) rfl rfl c1_X5_refuse (by decide) (by simp only [List.length_set]) ?_
    exact E_iret rfl rfl, by
    refine Ef.in (md := mX6_square) (L := [some (.ref 65), some (.int a1), none, none, none]) rfl (Nat.le_of_ble_eq_true rfl) rfl ?_
    refine E_aload_n rfl rfl ?_
    refine E_iload_n rfl rfl ?_
    have e3 : Ev ab_Z0 2 142 [.ref 65, .int a1] (w0.set 48 (.inl [0, 1, 0, 0, 0, 0, 0, 0])) (some (.int (-1)), (w0.set 48 (.inl [0, 1, 0, 0, 0, 0, 0, 0]))) := by
      refine Ef.in (md := mX6_wanted) (L := [some (.ref 65), some (.int a1)]) rfl (Nat.le_of_ble_eq_true rfl) rfl ?_
      refine E_aload_n rfl rfl ?_
      refine E_iload_n rfl rfl ?_
      have e3 : Ev ab_Z0 1 131 [.ref 65, .int a1] (w0.set 48 (.inl [0, 1, 0, 0, 0, 0, 0, 0])) (some (.int 0), (w0.set 48 (.inl [0, 1, 0, 0, 0, 0, 0, 0]))) := by
        refine Ef.in (md := mX6_isShelf) (L := [some (.ref 65), some (.int a1)]) rfl (Nat.le_of_ble_eq_true rfl) rfl ?_
        refine E_iload_n rfl rfl ?_
        refine E_if (t := 14) (b := false) rfl rfl ((cn_lt (rfl : (a1).toInt = (a1).toInt) (by decide : (0 : Int32).toInt = 0)).trans (decide_eq_false (by omega))) ?_
        refine E_iload_n rfl rfl ?_
        refine E_bipush (x := 8) rfl (by decide) ?_
        refine E_ic (t := 14) (b := true) rfl rfl ((cn_ge (rfl : (a1).toInt = (a1).toInt) (by decide : (8 : Int32).toInt = 8)).trans (decide_eq_true (by omega))) ?_
        refine E_iconst (x := 0) rfl (by decide) ?_
        exact E_iret rfl rfl
      refine E_callV (v := some (.int 0)) (As := [.ref 65, .int a1]) (r0 := []) (cs2 := (w0.set 48 (.inl [0, 1, 0, 0, 0, 0, 0, 0]))) rfl rfl rfl (Nat.le_of_ble_eq_true rfl) rfl rfl e3 (by decide) rfl ?_
      refine E_if (t := 12) (b := false) rfl rfl (by decide) ?_
      refine E_iconst (x := (-1)) rfl (by decide) ?_
      refine E_goto (t := 42) rfl rfl ?_
      exact E_iret rfl rfl
    refine E_callV (v := some (.int (-1))) (As := [.ref 65, .int a1]) (r0 := []) (cs2 := (w0.set 48 (.inl [0, 1, 0, 0, 0, 0, 0, 0]))) rfl rfl rfl (Nat.le_of_ble_eq_true rfl) rfl rfl e3 (by decide) rfl ?_
    refine E_istore_n (L2 := [some (.ref 65), some (.int a1), some (.int (-1)), none, none]) rfl rfl ?_
    refine E_iload_n rfl rfl ?_
    refine E_if (t := 16) (b := false) rfl rfl (by decide) ?_
    refine E_aload_n rfl rfl ?_
    refine E_iload_n rfl rfl ?_
    refine E_callV (v := some (.int (-1))) (As := [.ref 65, .int (-1)]) (r0 := []) (cs2 := ((w0.set 48 (.inl [0, 1, 0, 0, 0, 0, 0, 0])).set 66 (.inl [0, 1, 0, 0, 0, 0, 0, 0]))) rfl rfl rfl (Nat.le_of_ble_eq_true rfl) rfl rfl c3_X6_no (by decide) (by simp only [List.length_set]) ?_
    exact E_iret rfl rfl, (by simp only [List.length_set]; rfl), (by simp only [List.length_set]; rfl), ((ab_szs rfl).trans ((ab_szs rfl).trans rfl)), fun _ => rfl⟩
theorem f_square (a1 : Int32) : p1_P 7 90 4 165 [.ref 0, .int a1] [.ref 65, .int a1] := by
  rcases ab_ltge a1.toInt (0) with h | h
  · exact f_square_1 a1 (by omega)
  rcases ab_ltge a1.toInt (8) with h | h
  · rcases ab_ltge a1.toInt (1) with h | h
    · obtain rfl : a1 = 0 := Int32.toInt_inj.mp (by rw [show ((0 : Int32).toInt = 0) by decide]; omega)
      exact f_square_2
    rcases ab_ltge a1.toInt (2) with h | h
    · obtain rfl : a1 = 1 := Int32.toInt_inj.mp (by rw [show ((1 : Int32).toInt = 1) by decide]; omega)
      exact f_square_3
    rcases ab_ltge a1.toInt (3) with h | h
    · obtain rfl : a1 = 2 := Int32.toInt_inj.mp (by rw [show ((2 : Int32).toInt = 2) by decide]; omega)
      exact f_square_4
    rcases ab_ltge a1.toInt (4) with h | h
    · obtain rfl : a1 = 3 := Int32.toInt_inj.mp (by rw [show ((3 : Int32).toInt = 3) by decide]; omega)
      exact f_square_5
    rcases ab_ltge a1.toInt (5) with h | h
    · obtain rfl : a1 = 4 := Int32.toInt_inj.mp (by rw [show ((4 : Int32).toInt = 4) by decide]; omega)
      exact f_square_6
    rcases ab_ltge a1.toInt (6) with h | h
    · obtain rfl : a1 = 5 := Int32.toInt_inj.mp (by rw [show ((5 : Int32).toInt = 5) by decide]; omega)
      exact f_square_7
    rcases ab_ltge a1.toInt (7) with h | h
    · obtain rfl : a1 = 6 := Int32.toInt_inj.mp (by rw [show ((6 : Int32).toInt = 6) by decide]; omega)
      exact f_square_8
    obtain rfl : a1 = 7 := Int32.toInt_inj.mp (by rw [show ((7 : Int32).toInt = 7) by decide]; omega)
    exact f_square_9
  exact f_square_10 a1 (by omega)
