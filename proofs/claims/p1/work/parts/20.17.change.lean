theorem c229_X6_noTen : Ev ab_Z0 1 130 [.ref 65, .int (-5)] (w0.set 48 (.inl [0, 0, 0, 0, 0, 1, 0, 0])) (some (.int (-15)), ((w0.set 48 (.inl [0, 0, 0, 0, 0, 1, 0, 0])).set 66 (.inl [0, 0, 0, 0, 0, 1, 0, 0]))) := by
  refine Ef.in (md := mX6_noTen) (L := [some (.ref 65), some (.int (-5))]) rfl (Nat.le_of_ble_eq_true rfl) rfl ?_
  refine E_aload_n rfl rfl ?_
  refine E_getfield (v := .ref 66) rfl rfl rfl (by decide) rfl ?_
  refine E_iload_n rfl rfl ?_
  refine E_ineg (z := 5) rfl (by decide) ?_
  refine E_dup2 rfl ⟨rfl, rfl⟩ ?_
  refine E_iaload (x := 0) (j := 5) rfl rfl (by decide) (by decide) rfl ?_
  refine E_iconst (x := 1) rfl (by decide) ?_
  refine E_iadd (z := 1) rfl (by decide) ?_
  refine E_iastore (j := 5) (cs2 := ((w0.set 48 (.inl [0, 0, 0, 0, 0, 1, 0, 0])).set 66 (.inl [0, 0, 0, 0, 0, 1, 0, 0]))) rfl rfl (by decide) (by decide) (Nat.le_of_ble_eq_true rfl) rfl ?_
  refine E_iload_n rfl rfl ?_
  refine E_bipush (x := 10) rfl (by decide) ?_
  refine E_isub (z := (-15)) rfl (by decide) ?_
  exact E_iret rfl rfl
theorem c230_X5_isOneOfTwo : Ev ab_Z0 1 116 [.int 0] w0 (some (.int 1), w0) := by
  refine Ef.in (md := mX5_isOneOfTwo) (L := [some (.int 0)]) rfl (Nat.le_of_ble_eq_true rfl) rfl ?_
  refine E_iload_n rfl rfl ?_
  refine E_if (t := 9) (b := true) rfl rfl (by decide) ?_
  refine E_iconst (x := 1) rfl (by decide) ?_
  refine E_goto (t := 14) rfl rfl ?_
  exact E_iret rfl rfl
theorem c231_X6_noTen : Ev ab_Z0 1 130 [.ref 65, .int (-6)] (w0.set 48 (.inl [0, 0, 0, 0, 0, 0, 1, 0])) (some (.int (-16)), ((w0.set 48 (.inl [0, 0, 0, 0, 0, 0, 1, 0])).set 66 (.inl [0, 0, 0, 0, 0, 0, 1, 0]))) := by
  refine Ef.in (md := mX6_noTen) (L := [some (.ref 65), some (.int (-6))]) rfl (Nat.le_of_ble_eq_true rfl) rfl ?_
  refine E_aload_n rfl rfl ?_
  refine E_getfield (v := .ref 66) rfl rfl rfl (by decide) rfl ?_
  refine E_iload_n rfl rfl ?_
  refine E_ineg (z := 6) rfl (by decide) ?_
  refine E_dup2 rfl ⟨rfl, rfl⟩ ?_
  refine E_iaload (x := 0) (j := 6) rfl rfl (by decide) (by decide) rfl ?_
  refine E_iconst (x := 1) rfl (by decide) ?_
  refine E_iadd (z := 1) rfl (by decide) ?_
  refine E_iastore (j := 6) (cs2 := ((w0.set 48 (.inl [0, 0, 0, 0, 0, 0, 1, 0])).set 66 (.inl [0, 0, 0, 0, 0, 0, 1, 0]))) rfl rfl (by decide) (by decide) (Nat.le_of_ble_eq_true rfl) rfl ?_
  refine E_iload_n rfl rfl ?_
  refine E_bipush (x := 10) rfl (by decide) ?_
  refine E_isub (z := (-16)) rfl (by decide) ?_
  exact E_iret rfl rfl
theorem c233_X4_bitsAt : Ev ab_Z0 1 62 [.ref 1, .int 99] w0 (some (.int 0), w0) := by
  refine Ef.in (md := mX4_bitsAt) (L := [some (.ref 1), some (.int 99), none, none]) rfl (Nat.le_of_ble_eq_true rfl) rfl ?_
  refine E_iconst (x := 0) rfl (by decide) ?_
  refine E_istore_n (L2 := [some (.ref 1), some (.int 99), some (.int 0), none]) rfl rfl ?_
  refine E_iconst (x := 0) rfl (by decide) ?_
  refine E_istore_n (L2 := [some (.ref 1), some (.int 99), some (.int 0), some (.int 0)]) rfl rfl ?_
  refine E_iload_n rfl rfl ?_
  refine E_aload_n rfl rfl ?_
  refine E_getfield (v := .int 0) rfl rfl rfl (by decide) rfl ?_
  refine E_ic (t := 38) (b := true) rfl rfl (by decide) ?_
  refine E_iload_n rfl rfl ?_
  exact E_iret rfl rfl
theorem c232_X4_basin : Ev ab_Z0 2 63 [.ref 1] w0 (some (.int 0), w0) := by
  refine Ef.in (md := mX4_basin) (L := [some (.ref 1)]) rfl (Nat.le_of_ble_eq_true rfl) rfl ?_
  refine E_aload_n rfl rfl ?_
  refine E_bipush (x := 99) rfl (by decide) ?_
  refine E_callV (v := some (.int 0)) (As := [.ref 1, .int 99]) (r0 := []) (cs2 := w0) rfl rfl rfl (Nat.le_of_ble_eq_true rfl) rfl rfl c233_X4_bitsAt (by decide) rfl ?_
  exact E_iret rfl rfl
theorem c234_X0_weigh : Ev ab_Z0 2 2 [.ref 32, .ref 1, .int 0] w0 (none, (w0.set 33 (.inl [0, (-1), (-1), (-1), (-1), (-1), (-1), (-1), (-1), (-1), (-1), (-1), (-1), (-1), (-1), (-1), (-1), (-1), (-1), (-1), (-1), (-1), (-1), (-1), (-1), (-1), (-1), (-1), (-1), (-1), (-1), (-1), (-1), (-1), (-1), (-1), (-1), (-1), (-1), (-1), (-1), (-1), (-1), (-1), (-1), (-1), (-1), (-1), (-1), (-1), (-1), (-1), (-1), (-1), (-1), (-1), (-1), (-1), (-1), (-1), (-1), (-1), (-1), (-1), (-1), (-1), (-1), (-1), (-1), (-1), (-1), (-1), (-1), (-1), (-1), (-1), (-1), (-1), (-1), (-1), (-1), (-1), (-1), (-1), (-1), (-1), (-1), (-1), (-1), (-1), (-1), (-1), (-1), (-1), (-1), (-1), (-1), (-1), (-1), (-1)]))) := Ev.by (f := 935) (by decide +kernel)
theorem c235_X5_change : Ev ab_Z0 5 93 [.ref 0, .int 0, .int 0] w0 (some (.int 0), (w0.set 33 (.inl [0, (-1), (-1), (-1), (-1), (-1), (-1), (-1), (-1), (-1), (-1), (-1), (-1), (-1), (-1), (-1), (-1), (-1), (-1), (-1), (-1), (-1), (-1), (-1), (-1), (-1), (-1), (-1), (-1), (-1), (-1), (-1), (-1), (-1), (-1), (-1), (-1), (-1), (-1), (-1), (-1), (-1), (-1), (-1), (-1), (-1), (-1), (-1), (-1), (-1), (-1), (-1), (-1), (-1), (-1), (-1), (-1), (-1), (-1), (-1), (-1), (-1), (-1), (-1), (-1), (-1), (-1), (-1), (-1), (-1), (-1), (-1), (-1), (-1), (-1), (-1), (-1), (-1), (-1), (-1), (-1), (-1), (-1), (-1), (-1), (-1), (-1), (-1), (-1), (-1), (-1), (-1), (-1), (-1), (-1), (-1), (-1), (-1), (-1), (-1)]))) := Ev.by (f := 1012) (by decide +kernel)
theorem c236_X6_change : Ev ab_Z0 4 173 [.ref 65, .int 0, .int 0] (w0.set 33 (.inl [0, (-1), (-1), (-1), (-1), (-1), (-1), (-1), (-1), (-1), (-1), (-1), (-1), (-1), (-1), (-1), (-1), (-1), (-1), (-1), (-1), (-1), (-1), (-1), (-1), (-1), (-1), (-1), (-1), (-1), (-1), (-1), (-1), (-1), (-1), (-1), (-1), (-1), (-1), (-1), (-1), (-1), (-1), (-1), (-1), (-1), (-1), (-1), (-1), (-1), (-1), (-1), (-1), (-1), (-1), (-1), (-1), (-1), (-1), (-1), (-1), (-1), (-1), (-1), (-1), (-1), (-1), (-1), (-1), (-1), (-1), (-1), (-1), (-1), (-1), (-1), (-1), (-1), (-1), (-1), (-1), (-1), (-1), (-1), (-1), (-1), (-1), (-1), (-1), (-1), (-1), (-1), (-1), (-1), (-1), (-1), (-1), (-1), (-1), (-1)])) (some (.int 0), ((w0.set 33 (.inl [0, (-1), (-1), (-1), (-1), (-1), (-1), (-1), (-1), (-1), (-1), (-1), (-1), (-1), (-1), (-1), (-1), (-1), (-1), (-1), (-1), (-1), (-1), (-1), (-1), (-1), (-1), (-1), (-1), (-1), (-1), (-1), (-1), (-1), (-1), (-1), (-1), (-1), (-1), (-1), (-1), (-1), (-1), (-1), (-1), (-1), (-1), (-1), (-1), (-1), (-1), (-1), (-1), (-1), (-1), (-1), (-1), (-1), (-1), (-1), (-1), (-1), (-1), (-1), (-1), (-1), (-1), (-1), (-1), (-1), (-1), (-1), (-1), (-1), (-1), (-1), (-1), (-1), (-1), (-1), (-1), (-1), (-1), (-1), (-1), (-1), (-1), (-1), (-1), (-1), (-1), (-1), (-1), (-1), (-1), (-1), (-1), (-1), (-1), (-1)])).set 89 (.inl [0, (-1), (-1), (-1), (-1), (-1), (-1), (-1), (-1), (-1), (-1), (-1), (-1), (-1), (-1), (-1), (-1), (-1), (-1), (-1), (-1), (-1), (-1), (-1), (-1), (-1), (-1), (-1), (-1), (-1), (-1), (-1), (-1), (-1), (-1), (-1), (-1), (-1), (-1), (-1), (-1), (-1), (-1), (-1), (-1), (-1), (-1), (-1), (-1), (-1), (-1), (-1), (-1), (-1), (-1), (-1), (-1), (-1), (-1), (-1), (-1), (-1), (-1), (-1), (-1), (-1), (-1), (-1), (-1), (-1), (-1), (-1), (-1), (-1), (-1), (-1), (-1), (-1), (-1), (-1), (-1), (-1), (-1), (-1), (-1), (-1), (-1), (-1), (-1), (-1), (-1), (-1), (-1), (-1), (-1), (-1), (-1), (-1), (-1), (-1)]))) := Ev.by (f := 1115) (by decide +kernel)
theorem c237_X6_piecesOf : Ev ab_Z0 1 153 [.ref 65, .int 99] (w0.set 33 (.inl [0, (-1), (-1), (-1), (-1), (-1), (-1), (-1), (-1), (-1), (-1), (-1), (-1), (-1), (-1), (-1), (-1), (-1), (-1), (-1), (-1), (-1), (-1), (-1), (-1), (-1), (-1), (-1), (-1), (-1), (-1), (-1), (-1), (-1), (-1), (-1), (-1), (-1), (-1), (-1), (-1), (-1), (-1), (-1), (-1), (-1), (-1), (-1), (-1), (-1), (-1), (-1), (-1), (-1), (-1), (-1), (-1), (-1), (-1), (-1), (-1), (-1), (-1), (-1), (-1), (-1), (-1), (-1), (-1), (-1), (-1), (-1), (-1), (-1), (-1), (-1), (-1), (-1), (-1), (-1), (-1), (-1), (-1), (-1), (-1), (-1), (-1), (-1), (-1), (-1), (-1), (-1), (-1), (-1), (-1), (-1), (-1), (-1), (-1), (-1)])) (some (.int 0), (w0.set 33 (.inl [0, (-1), (-1), (-1), (-1), (-1), (-1), (-1), (-1), (-1), (-1), (-1), (-1), (-1), (-1), (-1), (-1), (-1), (-1), (-1), (-1), (-1), (-1), (-1), (-1), (-1), (-1), (-1), (-1), (-1), (-1), (-1), (-1), (-1), (-1), (-1), (-1), (-1), (-1), (-1), (-1), (-1), (-1), (-1), (-1), (-1), (-1), (-1), (-1), (-1), (-1), (-1), (-1), (-1), (-1), (-1), (-1), (-1), (-1), (-1), (-1), (-1), (-1), (-1), (-1), (-1), (-1), (-1), (-1), (-1), (-1), (-1), (-1), (-1), (-1), (-1), (-1), (-1), (-1), (-1), (-1), (-1), (-1), (-1), (-1), (-1), (-1), (-1), (-1), (-1), (-1), (-1), (-1), (-1), (-1), (-1), (-1), (-1), (-1), (-1)]))) := by
  refine Ef.in (md := mX6_piecesOf) (L := [some (.ref 65), some (.int 99), none, none]) rfl (Nat.le_of_ble_eq_true rfl) rfl ?_
  refine E_iconst (x := 0) rfl (by decide) ?_
  refine E_istore_n (L2 := [some (.ref 65), some (.int 99), some (.int 0), none]) rfl rfl ?_
  refine E_iconst (x := 0) rfl (by decide) ?_
  refine E_istore_n (L2 := [some (.ref 65), some (.int 99), some (.int 0), some (.int 0)]) rfl rfl ?_
  refine E_iload_n rfl rfl ?_
  refine E_aload_n rfl rfl ?_
  refine E_getfield (v := .int 0) rfl rfl rfl (by decide) rfl ?_
  refine E_ic (t := 34) (b := true) rfl rfl (by decide) ?_
  refine E_iload_n rfl rfl ?_
  exact E_iret rfl rfl
theorem c238_X6_tellsBest : Ev ab_Z0 3 170 [.ref 65, .int 0] (w0.set 33 (.inl [0, (-1), (-1), (-1), (-1), (-1), (-1), (-1), (-1), (-1), (-1), (-1), (-1), (-1), (-1), (-1), (-1), (-1), (-1), (-1), (-1), (-1), (-1), (-1), (-1), (-1), (-1), (-1), (-1), (-1), (-1), (-1), (-1), (-1), (-1), (-1), (-1), (-1), (-1), (-1), (-1), (-1), (-1), (-1), (-1), (-1), (-1), (-1), (-1), (-1), (-1), (-1), (-1), (-1), (-1), (-1), (-1), (-1), (-1), (-1), (-1), (-1), (-1), (-1), (-1), (-1), (-1), (-1), (-1), (-1), (-1), (-1), (-1), (-1), (-1), (-1), (-1), (-1), (-1), (-1), (-1), (-1), (-1), (-1), (-1), (-1), (-1), (-1), (-1), (-1), (-1), (-1), (-1), (-1), (-1), (-1), (-1), (-1), (-1), (-1)])) (none, ((w0.set 33 (.inl [0, (-1), (-1), (-1), (-1), (-1), (-1), (-1), (-1), (-1), (-1), (-1), (-1), (-1), (-1), (-1), (-1), (-1), (-1), (-1), (-1), (-1), (-1), (-1), (-1), (-1), (-1), (-1), (-1), (-1), (-1), (-1), (-1), (-1), (-1), (-1), (-1), (-1), (-1), (-1), (-1), (-1), (-1), (-1), (-1), (-1), (-1), (-1), (-1), (-1), (-1), (-1), (-1), (-1), (-1), (-1), (-1), (-1), (-1), (-1), (-1), (-1), (-1), (-1), (-1), (-1), (-1), (-1), (-1), (-1), (-1), (-1), (-1), (-1), (-1), (-1), (-1), (-1), (-1), (-1), (-1), (-1), (-1), (-1), (-1), (-1), (-1), (-1), (-1), (-1), (-1), (-1), (-1), (-1), (-1), (-1), (-1), (-1), (-1), (-1)])).set 89 (.inl [0, (-1), (-1), (-1), (-1), (-1), (-1), (-1), (-1), (-1), (-1), (-1), (-1), (-1), (-1), (-1), (-1), (-1), (-1), (-1), (-1), (-1), (-1), (-1), (-1), (-1), (-1), (-1), (-1), (-1), (-1), (-1), (-1), (-1), (-1), (-1), (-1), (-1), (-1), (-1), (-1), (-1), (-1), (-1), (-1), (-1), (-1), (-1), (-1), (-1), (-1), (-1), (-1), (-1), (-1), (-1), (-1), (-1), (-1), (-1), (-1), (-1), (-1), (-1), (-1), (-1), (-1), (-1), (-1), (-1), (-1), (-1), (-1), (-1), (-1), (-1), (-1), (-1), (-1), (-1), (-1), (-1), (-1), (-1), (-1), (-1), (-1), (-1), (-1), (-1), (-1), (-1), (-1), (-1), (-1), (-1), (-1), (-1), (-1), (-1)]))) := Ev.by (f := 1072) (by decide +kernel)
theorem c239_X5_isOneOfTwo : Ev ab_Z0 1 116 [.int 1] w0 (some (.int 1), w0) := by
  refine Ef.in (md := mX5_isOneOfTwo) (L := [some (.int 1)]) rfl (Nat.le_of_ble_eq_true rfl) rfl ?_
  refine E_iload_n rfl rfl ?_
  refine E_if (t := 9) (b := false) rfl rfl (by decide) ?_
  refine E_iload_n rfl rfl ?_
  refine E_iconst (x := 1) rfl (by decide) ?_
  refine E_ic (t := 13) (b := false) rfl rfl (by decide) ?_
  refine E_iconst (x := 1) rfl (by decide) ?_
  refine E_goto (t := 14) rfl rfl ?_
  exact E_iret rfl rfl
theorem c241_X4_isAmount : Ev ab_Z0 1 48 [.int 0] w0 (some (.int 1), w0) := by
  refine Ef.in (md := mX4_isAmount) (L := [some (.int 0)]) rfl (Nat.le_of_ble_eq_true rfl) rfl ?_
  refine E_iload_n rfl rfl ?_
  refine E_if (t := 14) (b := false) rfl rfl (by decide) ?_
  refine E_iload_n rfl rfl ?_
  refine E_bipush (x := 100) rfl (by decide) ?_
  refine E_ic (t := 14) (b := false) rfl rfl (by decide) ?_
  refine E_iconst (x := 1) rfl (by decide) ?_
  refine E_goto (t := 15) rfl rfl ?_
  exact E_iret rfl rfl
theorem c243_X4_greedyFor : Ev ab_Z0 3 69 [.ref 1, .int 0] w0 (some (.int 0), w0) := by
  refine Ef.in (md := mX4_greedyFor) (L := [some (.ref 1), some (.int 0), none, none, none, none, none]) rfl (Nat.le_of_ble_eq_true rfl) rfl ?_
  refine E_iload_n rfl rfl ?_
  refine E_istore_n (L2 := [some (.ref 1), some (.int 0), some (.int 0), none, none, none, none]) rfl rfl ?_
  refine E_aload_n rfl rfl ?_
  refine E_callV (v := some (.int 0)) (As := [.ref 1]) (r0 := []) (cs2 := w0) rfl rfl rfl (Nat.le_of_ble_eq_true rfl) rfl rfl c232_X4_basin (by decide) rfl ?_
  refine E_istore_n (L2 := [some (.ref 1), some (.int 0), some (.int 0), some (.int 0), none, none, none]) rfl rfl ?_
  refine E_iconst (x := 0) rfl (by decide) ?_
  refine E_istore (L2 := [some (.ref 1), some (.int 0), some (.int 0), some (.int 0), some (.int 0), none, none]) rfl rfl ?_
  refine E_iconst (x := 0) rfl (by decide) ?_
  refine E_istore (L2 := [some (.ref 1), some (.int 0), some (.int 0), some (.int 0), some (.int 0), some (.int 0), none]) rfl rfl ?_
  refine E_iload rfl rfl ?_
  refine E_bipush (x := 9) rfl (by decide) ?_
  refine E_ic (t := 71) (b := false) rfl rfl (by decide) ?_
  refine E_iload_n rfl rfl ?_
  refine E_if (t := 71) (b := true) rfl rfl (by decide) ?_
  refine E_iload_n rfl rfl ?_
  refine E_if (t := 80) (b := false) rfl rfl (by decide) ?_
  refine E_iload rfl rfl ?_
  refine E_goto (t := 81) rfl rfl ?_
  exact E_iret rfl rfl
theorem c242_X0_bitsBy : Ev ab_Z0 4 1 [.ref 32, .ref 1, .int 1, .int 0] w0 (some (.int 0), w0) := by
  refine Ef.in (md := mX0_bitsBy) (L := [some (.ref 32), some (.ref 1), some (.int 1), some (.int 0)]) rfl (Nat.le_of_ble_eq_true rfl) rfl ?_
  refine E_iload_n rfl rfl ?_
  refine E_iconst (x := 1) rfl (by decide) ?_
  refine E_ic (t := 11) (b := false) rfl rfl (by decide) ?_
  refine E_aload_n rfl rfl ?_
  refine E_iload_n rfl rfl ?_
  refine E_callV (v := some (.int 0)) (As := [.ref 1, .int 0]) (r0 := []) (cs2 := w0) rfl rfl rfl (Nat.le_of_ble_eq_true rfl) rfl rfl c243_X4_greedyFor (by decide) rfl ?_
  exact E_iret rfl rfl
theorem c240_X5_change : Ev ab_Z0 5 93 [.ref 0, .int 0, .int 1] w0 (some (.int 0), w0) := by
  refine Ef.in (md := mX5_change) (L := [some (.ref 0), some (.int 0), some (.int 1)]) rfl (Nat.le_of_ble_eq_true rfl) rfl ?_
  refine E_iload_n rfl rfl ?_
  refine E_callS (v := some (.int 1)) (As := [.int 1]) (r0 := []) (cs2 := w0) rfl rfl rfl (Nat.le_of_ble_eq_true rfl) rfl c239_X5_isOneOfTwo (by decide) rfl ?_
  refine E_if (t := 16) (b := true) rfl rfl (by decide) ?_
  refine E_iload_n rfl rfl ?_
  refine E_callS (v := some (.int 1)) (As := [.int 0]) (r0 := []) (cs2 := w0) rfl rfl rfl (Nat.le_of_ble_eq_true rfl) rfl c241_X4_isAmount (by decide) rfl ?_
  refine E_if (t := 33) (b := true) rfl rfl (by decide) ?_
  refine E_aload_n rfl rfl ?_
  refine E_getfield (v := .ref 32) rfl rfl rfl (by decide) rfl ?_
  refine E_aload_n rfl rfl ?_
  refine E_getfield (v := .ref 1) rfl rfl rfl (by decide) rfl ?_
  refine E_iload_n rfl rfl ?_
  refine E_iload_n rfl rfl ?_
  refine E_callV (v := some (.int 0)) (As := [.ref 32, .ref 1, .int 1, .int 0]) (r0 := []) (cs2 := w0) rfl rfl rfl (Nat.le_of_ble_eq_true rfl) rfl rfl c242_X0_bitsBy (by decide) rfl ?_
  exact E_iret rfl rfl
theorem c244_X6_change : Ev ab_Z0 4 173 [.ref 65, .int 0, .int 1] w0 (some (.int 0), (w0.set 89 (.inl [0, (-1), (-1), (-1), (-1), (-1), (-1), (-1), (-1), (-1), (-1), (-1), (-1), (-1), (-1), (-1), (-1), (-1), (-1), (-1), (-1), (-1), (-1), (-1), (-1), (-1), (-1), (-1), (-1), (-1), (-1), (-1), (-1), (-1), (-1), (-1), (-1), (-1), (-1), (-1), (-1), (-1), (-1), (-1), (-1), (-1), (-1), (-1), (-1), (-1), (-1), (-1), (-1), (-1), (-1), (-1), (-1), (-1), (-1), (-1), (-1), (-1), (-1), (-1), (-1), (-1), (-1), (-1), (-1), (-1), (-1), (-1), (-1), (-1), (-1), (-1), (-1), (-1), (-1), (-1), (-1), (-1), (-1), (-1), (-1), (-1), (-1), (-1), (-1), (-1), (-1), (-1), (-1), (-1), (-1), (-1), (-1), (-1), (-1), (-1)]))) := Ev.by (f := 1121) (by decide +kernel)
theorem c245_X6_piecesOf : Ev ab_Z0 1 153 [.ref 65, .int 99] w0 (some (.int 0), w0) := by
  refine Ef.in (md := mX6_piecesOf) (L := [some (.ref 65), some (.int 99), none, none]) rfl (Nat.le_of_ble_eq_true rfl) rfl ?_
  refine E_iconst (x := 0) rfl (by decide) ?_
  refine E_istore_n (L2 := [some (.ref 65), some (.int 99), some (.int 0), none]) rfl rfl ?_
  refine E_iconst (x := 0) rfl (by decide) ?_
  refine E_istore_n (L2 := [some (.ref 65), some (.int 99), some (.int 0), some (.int 0)]) rfl rfl ?_
  refine E_iload_n rfl rfl ?_
  refine E_aload_n rfl rfl ?_
  refine E_getfield (v := .int 0) rfl rfl rfl (by decide) rfl ?_
  refine E_ic (t := 34) (b := true) rfl rfl (by decide) ?_
  refine E_iload_n rfl rfl ?_
  exact E_iret rfl rfl
theorem c246_X6_tellsBest : Ev ab_Z0 3 170 [.ref 65, .int 0] w0 (none, (w0.set 89 (.inl [0, (-1), (-1), (-1), (-1), (-1), (-1), (-1), (-1), (-1), (-1), (-1), (-1), (-1), (-1), (-1), (-1), (-1), (-1), (-1), (-1), (-1), (-1), (-1), (-1), (-1), (-1), (-1), (-1), (-1), (-1), (-1), (-1), (-1), (-1), (-1), (-1), (-1), (-1), (-1), (-1), (-1), (-1), (-1), (-1), (-1), (-1), (-1), (-1), (-1), (-1), (-1), (-1), (-1), (-1), (-1), (-1), (-1), (-1), (-1), (-1), (-1), (-1), (-1), (-1), (-1), (-1), (-1), (-1), (-1), (-1), (-1), (-1), (-1), (-1), (-1), (-1), (-1), (-1), (-1), (-1), (-1), (-1), (-1), (-1), (-1), (-1), (-1), (-1), (-1), (-1), (-1), (-1), (-1), (-1), (-1), (-1), (-1), (-1), (-1)]))) := Ev.by (f := 1072) (by decide +kernel)
theorem f_change_1 (a1 a2 : Int32) (ha2h : a2.toInt ≤ -1) : p1_P 5 93 4 173 [.ref 0, .int a1, .int a2] [.ref 65, .int a1, .int a2] :=
  ⟨(-15), (w0.set 48 (.inl [0, 0, 0, 0, 0, 1, 0, 0])), ((w0.set 48 (.inl [0, 0, 0, 0, 0, 1, 0, 0])).set 66 (.inl [0, 0, 0, 0, 0, 1, 0, 0])), by
    refine Ef.in (md := mX5_change) (L := [some (.ref 0), some (.int a1), some (.int a2)]) rfl (Nat.le_of_ble_eq_true rfl) rfl ?_
    refine E_iload_n rfl rfl ?_
    have e2 : Ev ab_Z0 1 116 [.int a2] w0 (some (.int 0), w0) := by
      refine Ef.in (md := mX5_isOneOfTwo) (L := [some (.int a2)]) rfl (Nat.le_of_ble_eq_true rfl) rfl ?_
      refine E_iload_n rfl rfl ?_
      refine E_if (t := 9) (b := false) rfl rfl ((cn_eq (rfl : (a2).toInt = (a2).toInt) (by decide : (0 : Int32).toInt = 0)).trans (decide_eq_false (by omega))) ?_
      refine E_iload_n rfl rfl ?_
      refine E_iconst (x := 1) rfl (by decide) ?_
      refine E_ic (t := 13) (b := true) rfl rfl ((cn_ne (rfl : (a2).toInt = (a2).toInt) (by decide : (1 : Int32).toInt = 1)).trans (decide_eq_true (by omega))) ?_
      refine E_iconst (x := 0) rfl (by decide) ?_
      exact E_iret rfl rfl
    refine E_callS (v := some (.int 0)) (As := [.int a2]) (r0 := []) (cs2 := w0) rfl rfl rfl (Nat.le_of_ble_eq_true rfl) rfl e2 (by decide) rfl ?_
    refine E_if (t := 16) (b := false) rfl rfl (by decide) ?_
    refine E_aload_n rfl rfl ?_
    refine E_iconst (x := 5) rfl (by decide) ?_
    refine E_callV (v := some (.int (-5))) (As := [.ref 0, .int 5]) (r0 := []) (cs2 := (w0.set 48 (.inl [0, 0, 0, 0, 0, 1, 0, 0]))) rfl rfl rfl (Nat.le_of_ble_eq_true rfl) rfl rfl c200_X5_refuse (by decide) (by simp only [List.length_set]) ?_
    refine E_bipush (x := 10) rfl (by decide) ?_
    refine E_isub (z := (-15)) rfl (by decide) ?_
    exact E_iret rfl rfl, by
    refine Ef.in (md := mX6_change) (L := [some (.ref 65), some (.int a1), some (.int a2)]) rfl (Nat.le_of_ble_eq_true rfl) rfl ?_
    refine E_iload_n rfl rfl ?_
    refine E_if (t := 9) (b := true) rfl rfl ((cn_lt (rfl : (a2).toInt = (a2).toInt) (by decide : (0 : Int32).toInt = 0)).trans (decide_eq_true (by omega))) ?_
    refine E_aload_n rfl rfl ?_
    refine E_bipush (x := (-5)) rfl (by decide) ?_
    refine E_callV (v := some (.int (-15))) (As := [.ref 65, .int (-5)]) (r0 := []) (cs2 := ((w0.set 48 (.inl [0, 0, 0, 0, 0, 1, 0, 0])).set 66 (.inl [0, 0, 0, 0, 0, 1, 0, 0]))) rfl rfl rfl (Nat.le_of_ble_eq_true rfl) rfl rfl c229_X6_noTen (by decide) (by simp only [List.length_set]) ?_
    exact E_iret rfl rfl, (by simp only [List.length_set]; rfl), (by simp only [List.length_set]; rfl), ((ab_szs rfl).trans ((ab_szs rfl).trans rfl)), fun _ => rfl⟩
theorem f_change_2 (a1 : Int32) (ha1h : a1.toInt ≤ -1) : p1_P 5 93 4 173 [.ref 0, .int a1, .int 0] [.ref 65, .int a1, .int 0] :=
  ⟨(-16), (w0.set 48 (.inl [0, 0, 0, 0, 0, 0, 1, 0])), ((w0.set 48 (.inl [0, 0, 0, 0, 0, 0, 1, 0])).set 66 (.inl [0, 0, 0, 0, 0, 0, 1, 0])), by
    refine Ef.in (md := mX5_change) (L := [some (.ref 0), some (.int a1), some (.int 0)]) rfl (Nat.le_of_ble_eq_true rfl) rfl ?_
    refine E_iload_n rfl rfl ?_
    refine E_callS (v := some (.int 1)) (As := [.int 0]) (r0 := []) (cs2 := w0) rfl rfl rfl (Nat.le_of_ble_eq_true rfl) rfl c230_X5_isOneOfTwo (by decide) rfl ?_
    refine E_if (t := 16) (b := true) rfl rfl (by decide) ?_
    refine E_iload_n rfl rfl ?_
    have e5 : Ev ab_Z0 1 48 [.int a1] w0 (some (.int 0), w0) := by
      refine Ef.in (md := mX4_isAmount) (L := [some (.int a1)]) rfl (Nat.le_of_ble_eq_true rfl) rfl ?_
      refine E_iload_n rfl rfl ?_
      refine E_if (t := 14) (b := true) rfl rfl ((cn_lt (rfl : (a1).toInt = (a1).toInt) (by decide : (0 : Int32).toInt = 0)).trans (decide_eq_true (by omega))) ?_
      refine E_iconst (x := 0) rfl (by decide) ?_
      exact E_iret rfl rfl
    refine E_callS (v := some (.int 0)) (As := [.int a1]) (r0 := []) (cs2 := w0) rfl rfl rfl (Nat.le_of_ble_eq_true rfl) rfl e5 (by decide) rfl ?_
    refine E_if (t := 33) (b := false) rfl rfl (by decide) ?_
    refine E_aload_n rfl rfl ?_
    refine E_bipush (x := 6) rfl (by decide) ?_
    refine E_callV (v := some (.int (-6))) (As := [.ref 0, .int 6]) (r0 := []) (cs2 := (w0.set 48 (.inl [0, 0, 0, 0, 0, 0, 1, 0]))) rfl rfl rfl (Nat.le_of_ble_eq_true rfl) rfl rfl c7_X5_refuse (by decide) (by simp only [List.length_set]) ?_
    refine E_bipush (x := 10) rfl (by decide) ?_
    refine E_isub (z := (-16)) rfl (by decide) ?_
    exact E_iret rfl rfl, by
    refine Ef.in (md := mX6_change) (L := [some (.ref 65), some (.int a1), some (.int 0)]) rfl (Nat.le_of_ble_eq_true rfl) rfl ?_
    refine E_iload_n rfl rfl ?_
    refine E_if (t := 9) (b := false) rfl rfl (by decide) ?_
    refine E_iload_n rfl rfl ?_
    refine E_iconst (x := 1) rfl (by decide) ?_
    refine E_ic (t := 16) (b := true) rfl rfl (by decide) ?_
    refine E_aload_n rfl rfl ?_
    refine E_iload_n rfl rfl ?_
    refine E_iconst (x := 0) rfl (by decide) ?_
    refine E_bipush (x := 99) rfl (by decide) ?_
    have e10 : Ev ab_Z0 1 134 [.ref 65, .int a1, .int 0, .int 99] (w0.set 48 (.inl [0, 0, 0, 0, 0, 0, 1, 0])) (some (.int 0), (w0.set 48 (.inl [0, 0, 0, 0, 0, 0, 1, 0]))) := by
      refine Ef.in (md := mX6_isFrom) (L := [some (.ref 65), some (.int a1), some (.int 0), some (.int 99)]) rfl (Nat.le_of_ble_eq_true rfl) rfl ?_
      refine E_iload_n rfl rfl ?_
      refine E_iload_n rfl rfl ?_
      refine E_ic (t := 14) (b := true) rfl rfl ((cn_lt (rfl : (a1).toInt = (a1).toInt) (by decide : (0 : Int32).toInt = 0)).trans (decide_eq_true (by omega))) ?_
      refine E_iconst (x := 0) rfl (by decide) ?_
      exact E_iret rfl rfl
    refine E_callV (v := some (.int 0)) (As := [.ref 65, .int a1, .int 0, .int 99]) (r0 := []) (cs2 := (w0.set 48 (.inl [0, 0, 0, 0, 0, 0, 1, 0]))) rfl rfl rfl (Nat.le_of_ble_eq_true rfl) rfl rfl e10 (by decide) rfl ?_
    refine E_if (t := 34) (b := false) rfl rfl (by decide) ?_
    refine E_aload_n rfl rfl ?_
    refine E_bipush (x := (-6)) rfl (by decide) ?_
    refine E_callV (v := some (.int (-16))) (As := [.ref 65, .int (-6)]) (r0 := []) (cs2 := ((w0.set 48 (.inl [0, 0, 0, 0, 0, 0, 1, 0])).set 66 (.inl [0, 0, 0, 0, 0, 0, 1, 0]))) rfl rfl rfl (Nat.le_of_ble_eq_true rfl) rfl rfl c231_X6_noTen (by decide) (by simp only [List.length_set]) ?_
    exact E_iret rfl rfl, (by simp only [List.length_set]; rfl), (by simp only [List.length_set]; rfl), ((ab_szs rfl).trans ((ab_szs rfl).trans rfl)), fun _ => rfl⟩
theorem f_change_3 : p1_P 5 93 4 173 [.ref 0, .int 0, .int 0] [.ref 65, .int 0, .int 0] :=
  ⟨0, (w0.set 33 (.inl [0, (-1), (-1), (-1), (-1), (-1), (-1), (-1), (-1), (-1), (-1), (-1), (-1), (-1), (-1), (-1), (-1), (-1), (-1), (-1), (-1), (-1), (-1), (-1), (-1), (-1), (-1), (-1), (-1), (-1), (-1), (-1), (-1), (-1), (-1), (-1), (-1), (-1), (-1), (-1), (-1), (-1), (-1), (-1), (-1), (-1), (-1), (-1), (-1), (-1), (-1), (-1), (-1), (-1), (-1), (-1), (-1), (-1), (-1), (-1), (-1), (-1), (-1), (-1), (-1), (-1), (-1), (-1), (-1), (-1), (-1), (-1), (-1), (-1), (-1), (-1), (-1), (-1), (-1), (-1), (-1), (-1), (-1), (-1), (-1), (-1), (-1), (-1), (-1), (-1), (-1), (-1), (-1), (-1), (-1), (-1), (-1), (-1), (-1), (-1)])), ((w0.set 33 (.inl [0, (-1), (-1), (-1), (-1), (-1), (-1), (-1), (-1), (-1), (-1), (-1), (-1), (-1), (-1), (-1), (-1), (-1), (-1), (-1), (-1), (-1), (-1), (-1), (-1), (-1), (-1), (-1), (-1), (-1), (-1), (-1), (-1), (-1), (-1), (-1), (-1), (-1), (-1), (-1), (-1), (-1), (-1), (-1), (-1), (-1), (-1), (-1), (-1), (-1), (-1), (-1), (-1), (-1), (-1), (-1), (-1), (-1), (-1), (-1), (-1), (-1), (-1), (-1), (-1), (-1), (-1), (-1), (-1), (-1), (-1), (-1), (-1), (-1), (-1), (-1), (-1), (-1), (-1), (-1), (-1), (-1), (-1), (-1), (-1), (-1), (-1), (-1), (-1), (-1), (-1), (-1), (-1), (-1), (-1), (-1), (-1), (-1), (-1), (-1)])).set 89 (.inl [0, (-1), (-1), (-1), (-1), (-1), (-1), (-1), (-1), (-1), (-1), (-1), (-1), (-1), (-1), (-1), (-1), (-1), (-1), (-1), (-1), (-1), (-1), (-1), (-1), (-1), (-1), (-1), (-1), (-1), (-1), (-1), (-1), (-1), (-1), (-1), (-1), (-1), (-1), (-1), (-1), (-1), (-1), (-1), (-1), (-1), (-1), (-1), (-1), (-1), (-1), (-1), (-1), (-1), (-1), (-1), (-1), (-1), (-1), (-1), (-1), (-1), (-1), (-1), (-1), (-1), (-1), (-1), (-1), (-1), (-1), (-1), (-1), (-1), (-1), (-1), (-1), (-1), (-1), (-1), (-1), (-1), (-1), (-1), (-1), (-1), (-1), (-1), (-1), (-1), (-1), (-1), (-1), (-1), (-1), (-1), (-1), (-1), (-1), (-1)])), by
    exact c235_X5_change, by
    exact c236_X6_change, (by simp only [List.length_set]; rfl), (by simp only [List.length_set]; rfl), ((ab_szs rfl).trans ((ab_szs rfl).trans rfl)), fun _ => rfl⟩
theorem f_change_4 (a1 : Int32) (ha1l : (1 : Int) ≤ a1.toInt) (ha1h : a1.toInt ≤ 99) : p1_P 5 93 4 173 [.ref 0, .int a1, .int 0] [.ref 65, .int a1, .int 0] :=
  ⟨(-1), (w0.set 33 (.inl [0, (-1), (-1), (-1), (-1), (-1), (-1), (-1), (-1), (-1), (-1), (-1), (-1), (-1), (-1), (-1), (-1), (-1), (-1), (-1), (-1), (-1), (-1), (-1), (-1), (-1), (-1), (-1), (-1), (-1), (-1), (-1), (-1), (-1), (-1), (-1), (-1), (-1), (-1), (-1), (-1), (-1), (-1), (-1), (-1), (-1), (-1), (-1), (-1), (-1), (-1), (-1), (-1), (-1), (-1), (-1), (-1), (-1), (-1), (-1), (-1), (-1), (-1), (-1), (-1), (-1), (-1), (-1), (-1), (-1), (-1), (-1), (-1), (-1), (-1), (-1), (-1), (-1), (-1), (-1), (-1), (-1), (-1), (-1), (-1), (-1), (-1), (-1), (-1), (-1), (-1), (-1), (-1), (-1), (-1), (-1), (-1), (-1), (-1), (-1)])), ((w0.set 33 (.inl [0, (-1), (-1), (-1), (-1), (-1), (-1), (-1), (-1), (-1), (-1), (-1), (-1), (-1), (-1), (-1), (-1), (-1), (-1), (-1), (-1), (-1), (-1), (-1), (-1), (-1), (-1), (-1), (-1), (-1), (-1), (-1), (-1), (-1), (-1), (-1), (-1), (-1), (-1), (-1), (-1), (-1), (-1), (-1), (-1), (-1), (-1), (-1), (-1), (-1), (-1), (-1), (-1), (-1), (-1), (-1), (-1), (-1), (-1), (-1), (-1), (-1), (-1), (-1), (-1), (-1), (-1), (-1), (-1), (-1), (-1), (-1), (-1), (-1), (-1), (-1), (-1), (-1), (-1), (-1), (-1), (-1), (-1), (-1), (-1), (-1), (-1), (-1), (-1), (-1), (-1), (-1), (-1), (-1), (-1), (-1), (-1), (-1), (-1), (-1)])).set 89 (.inl [0, (-1), (-1), (-1), (-1), (-1), (-1), (-1), (-1), (-1), (-1), (-1), (-1), (-1), (-1), (-1), (-1), (-1), (-1), (-1), (-1), (-1), (-1), (-1), (-1), (-1), (-1), (-1), (-1), (-1), (-1), (-1), (-1), (-1), (-1), (-1), (-1), (-1), (-1), (-1), (-1), (-1), (-1), (-1), (-1), (-1), (-1), (-1), (-1), (-1), (-1), (-1), (-1), (-1), (-1), (-1), (-1), (-1), (-1), (-1), (-1), (-1), (-1), (-1), (-1), (-1), (-1), (-1), (-1), (-1), (-1), (-1), (-1), (-1), (-1), (-1), (-1), (-1), (-1), (-1), (-1), (-1), (-1), (-1), (-1), (-1), (-1), (-1), (-1), (-1), (-1), (-1), (-1), (-1), (-1), (-1), (-1), (-1), (-1), (-1)])), by
    refine Ef.in (md := mX5_change) (L := [some (.ref 0), some (.int a1), some (.int 0)]) rfl (Nat.le_of_ble_eq_true rfl) rfl ?_
    refine E_iload_n rfl rfl ?_
    refine E_callS (v := some (.int 1)) (As := [.int 0]) (r0 := []) (cs2 := w0) rfl rfl rfl (Nat.le_of_ble_eq_true rfl) rfl c230_X5_isOneOfTwo (by decide) rfl ?_
    refine E_if (t := 16) (b := true) rfl rfl (by decide) ?_
    refine E_iload_n rfl rfl ?_
    have e5 : Ev ab_Z0 1 48 [.int a1] w0 (some (.int 1), w0) := by
      refine Ef.in (md := mX4_isAmount) (L := [some (.int a1)]) rfl (Nat.le_of_ble_eq_true rfl) rfl ?_
      refine E_iload_n rfl rfl ?_
      refine E_if (t := 14) (b := false) rfl rfl ((cn_lt (rfl : (a1).toInt = (a1).toInt) (by decide : (0 : Int32).toInt = 0)).trans (decide_eq_false (by omega))) ?_
      refine E_iload_n rfl rfl ?_
      refine E_bipush (x := 100) rfl (by decide) ?_
      refine E_ic (t := 14) (b := false) rfl rfl ((cn_ge (rfl : (a1).toInt = (a1).toInt) (by decide : (100 : Int32).toInt = 100)).trans (decide_eq_false (by omega))) ?_
      refine E_iconst (x := 1) rfl (by decide) ?_
      refine E_goto (t := 15) rfl rfl ?_
      exact E_iret rfl rfl
    refine E_callS (v := some (.int 1)) (As := [.int a1]) (r0 := []) (cs2 := w0) rfl rfl rfl (Nat.le_of_ble_eq_true rfl) rfl e5 (by decide) rfl ?_
    refine E_if (t := 33) (b := true) rfl rfl (by decide) ?_
    refine E_aload_n rfl rfl ?_
    refine E_getfield (v := .ref 32) rfl rfl rfl (by decide) rfl ?_
    refine E_aload_n rfl rfl ?_
    refine E_getfield (v := .ref 1) rfl rfl rfl (by decide) rfl ?_
    refine E_iload_n rfl rfl ?_
    refine E_iload_n rfl rfl ?_
    have e23 : Ev ab_Z0 4 1 [.ref 32, .ref 1, .int 0, .int a1] w0 (some (.int (-1)), (w0.set 33 (.inl [0, (-1), (-1), (-1), (-1), (-1), (-1), (-1), (-1), (-1), (-1), (-1), (-1), (-1), (-1), (-1), (-1), (-1), (-1), (-1), (-1), (-1), (-1), (-1), (-1), (-1), (-1), (-1), (-1), (-1), (-1), (-1), (-1), (-1), (-1), (-1), (-1), (-1), (-1), (-1), (-1), (-1), (-1), (-1), (-1), (-1), (-1), (-1), (-1), (-1), (-1), (-1), (-1), (-1), (-1), (-1), (-1), (-1), (-1), (-1), (-1), (-1), (-1), (-1), (-1), (-1), (-1), (-1), (-1), (-1), (-1), (-1), (-1), (-1), (-1), (-1), (-1), (-1), (-1), (-1), (-1), (-1), (-1), (-1), (-1), (-1), (-1), (-1), (-1), (-1), (-1), (-1), (-1), (-1), (-1), (-1), (-1), (-1), (-1), (-1)]))) := by
      refine Ef.in (md := mX0_bitsBy) (L := [some (.ref 32), some (.ref 1), some (.int 0), some (.int a1)]) rfl (Nat.le_of_ble_eq_true rfl) rfl ?_
      refine E_iload_n rfl rfl ?_
      refine E_iconst (x := 1) rfl (by decide) ?_
      refine E_ic (t := 11) (b := true) rfl rfl (by decide) ?_
      refine E_aload_n rfl rfl ?_
      refine E_aload_n rfl rfl ?_
      refine E_aload_n rfl rfl ?_
      refine E_callV (v := some (.int 0)) (As := [.ref 1]) (r0 := [.ref 1, .ref 32]) (cs2 := w0) rfl rfl rfl (Nat.le_of_ble_eq_true rfl) rfl rfl c232_X4_basin (by decide) rfl ?_
      refine E_callV (v := none) (As := [.ref 32, .ref 1, .int 0]) (r0 := []) (cs2 := (w0.set 33 (.inl [0, (-1), (-1), (-1), (-1), (-1), (-1), (-1), (-1), (-1), (-1), (-1), (-1), (-1), (-1), (-1), (-1), (-1), (-1), (-1), (-1), (-1), (-1), (-1), (-1), (-1), (-1), (-1), (-1), (-1), (-1), (-1), (-1), (-1), (-1), (-1), (-1), (-1), (-1), (-1), (-1), (-1), (-1), (-1), (-1), (-1), (-1), (-1), (-1), (-1), (-1), (-1), (-1), (-1), (-1), (-1), (-1), (-1), (-1), (-1), (-1), (-1), (-1), (-1), (-1), (-1), (-1), (-1), (-1), (-1), (-1), (-1), (-1), (-1), (-1), (-1), (-1), (-1), (-1), (-1), (-1), (-1), (-1), (-1), (-1), (-1), (-1), (-1), (-1), (-1), (-1), (-1), (-1), (-1), (-1), (-1), (-1), (-1), (-1), (-1)]))) rfl rfl rfl (Nat.le_of_ble_eq_true rfl) rfl rfl c234_X0_weigh (by decide) (by simp only [List.length_set]) ?_
      refine E_aload_n rfl rfl ?_
      refine E_iload_n rfl rfl ?_
      have e11 : Ev ab_Z0 2 4 [.ref 32, .int a1] (w0.set 33 (.inl [0, (-1), (-1), (-1), (-1), (-1), (-1), (-1), (-1), (-1), (-1), (-1), (-1), (-1), (-1), (-1), (-1), (-1), (-1), (-1), (-1), (-1), (-1), (-1), (-1), (-1), (-1), (-1), (-1), (-1), (-1), (-1), (-1), (-1), (-1), (-1), (-1), (-1), (-1), (-1), (-1), (-1), (-1), (-1), (-1), (-1), (-1), (-1), (-1), (-1), (-1), (-1), (-1), (-1), (-1), (-1), (-1), (-1), (-1), (-1), (-1), (-1), (-1), (-1), (-1), (-1), (-1), (-1), (-1), (-1), (-1), (-1), (-1), (-1), (-1), (-1), (-1), (-1), (-1), (-1), (-1), (-1), (-1), (-1), (-1), (-1), (-1), (-1), (-1), (-1), (-1), (-1), (-1), (-1), (-1), (-1), (-1), (-1), (-1), (-1)])) (some (.int (-1)), (w0.set 33 (.inl [0, (-1), (-1), (-1), (-1), (-1), (-1), (-1), (-1), (-1), (-1), (-1), (-1), (-1), (-1), (-1), (-1), (-1), (-1), (-1), (-1), (-1), (-1), (-1), (-1), (-1), (-1), (-1), (-1), (-1), (-1), (-1), (-1), (-1), (-1), (-1), (-1), (-1), (-1), (-1), (-1), (-1), (-1), (-1), (-1), (-1), (-1), (-1), (-1), (-1), (-1), (-1), (-1), (-1), (-1), (-1), (-1), (-1), (-1), (-1), (-1), (-1), (-1), (-1), (-1), (-1), (-1), (-1), (-1), (-1), (-1), (-1), (-1), (-1), (-1), (-1), (-1), (-1), (-1), (-1), (-1), (-1), (-1), (-1), (-1), (-1), (-1), (-1), (-1), (-1), (-1), (-1), (-1), (-1), (-1), (-1), (-1), (-1), (-1), (-1)]))) := by
        refine Ef.in (md := mX0_fewestFor) (L := [some (.ref 32), some (.int a1)]) rfl (Nat.le_of_ble_eq_true rfl) rfl ?_
        refine E_iload_n rfl rfl ?_
        have e2 : Ev ab_Z0 1 48 [.int a1] (w0.set 33 (.inl [0, (-1), (-1), (-1), (-1), (-1), (-1), (-1), (-1), (-1), (-1), (-1), (-1), (-1), (-1), (-1), (-1), (-1), (-1), (-1), (-1), (-1), (-1), (-1), (-1), (-1), (-1), (-1), (-1), (-1), (-1), (-1), (-1), (-1), (-1), (-1), (-1), (-1), (-1), (-1), (-1), (-1), (-1), (-1), (-1), (-1), (-1), (-1), (-1), (-1), (-1), (-1), (-1), (-1), (-1), (-1), (-1), (-1), (-1), (-1), (-1), (-1), (-1), (-1), (-1), (-1), (-1), (-1), (-1), (-1), (-1), (-1), (-1), (-1), (-1), (-1), (-1), (-1), (-1), (-1), (-1), (-1), (-1), (-1), (-1), (-1), (-1), (-1), (-1), (-1), (-1), (-1), (-1), (-1), (-1), (-1), (-1), (-1), (-1), (-1)])) (some (.int 1), (w0.set 33 (.inl [0, (-1), (-1), (-1), (-1), (-1), (-1), (-1), (-1), (-1), (-1), (-1), (-1), (-1), (-1), (-1), (-1), (-1), (-1), (-1), (-1), (-1), (-1), (-1), (-1), (-1), (-1), (-1), (-1), (-1), (-1), (-1), (-1), (-1), (-1), (-1), (-1), (-1), (-1), (-1), (-1), (-1), (-1), (-1), (-1), (-1), (-1), (-1), (-1), (-1), (-1), (-1), (-1), (-1), (-1), (-1), (-1), (-1), (-1), (-1), (-1), (-1), (-1), (-1), (-1), (-1), (-1), (-1), (-1), (-1), (-1), (-1), (-1), (-1), (-1), (-1), (-1), (-1), (-1), (-1), (-1), (-1), (-1), (-1), (-1), (-1), (-1), (-1), (-1), (-1), (-1), (-1), (-1), (-1), (-1), (-1), (-1), (-1), (-1), (-1)]))) := by
          refine Ef.in (md := mX4_isAmount) (L := [some (.int a1)]) rfl (Nat.le_of_ble_eq_true rfl) rfl ?_
          refine E_iload_n rfl rfl ?_
          refine E_if (t := 14) (b := false) rfl rfl ((cn_lt (rfl : (a1).toInt = (a1).toInt) (by decide : (0 : Int32).toInt = 0)).trans (decide_eq_false (by omega))) ?_
          refine E_iload_n rfl rfl ?_
          refine E_bipush (x := 100) rfl (by decide) ?_
          refine E_ic (t := 14) (b := false) rfl rfl ((cn_ge (rfl : (a1).toInt = (a1).toInt) (by decide : (100 : Int32).toInt = 100)).trans (decide_eq_false (by omega))) ?_
          refine E_iconst (x := 1) rfl (by decide) ?_
          refine E_goto (t := 15) rfl rfl ?_
          exact E_iret rfl rfl
        refine E_callS (v := some (.int 1)) (As := [.int a1]) (r0 := []) (cs2 := (w0.set 33 (.inl [0, (-1), (-1), (-1), (-1), (-1), (-1), (-1), (-1), (-1), (-1), (-1), (-1), (-1), (-1), (-1), (-1), (-1), (-1), (-1), (-1), (-1), (-1), (-1), (-1), (-1), (-1), (-1), (-1), (-1), (-1), (-1), (-1), (-1), (-1), (-1), (-1), (-1), (-1), (-1), (-1), (-1), (-1), (-1), (-1), (-1), (-1), (-1), (-1), (-1), (-1), (-1), (-1), (-1), (-1), (-1), (-1), (-1), (-1), (-1), (-1), (-1), (-1), (-1), (-1), (-1), (-1), (-1), (-1), (-1), (-1), (-1), (-1), (-1), (-1), (-1), (-1), (-1), (-1), (-1), (-1), (-1), (-1), (-1), (-1), (-1), (-1), (-1), (-1), (-1), (-1), (-1), (-1), (-1), (-1), (-1), (-1), (-1), (-1), (-1)]))) rfl rfl rfl (Nat.le_of_ble_eq_true rfl) rfl e2 (by decide) rfl ?_
        refine E_if (t := 17) (b := false) rfl rfl (by decide) ?_
        refine E_aload_n rfl rfl ?_
        refine E_getfield (v := .ref 33) rfl rfl rfl (by decide) rfl ?_
        refine E_iload_n rfl rfl ?_
        refine E_iaload (x := (-1)) (j := a1.toNatClampNeg) rfl rfl (ab_nneg (by omega)) rfl (ab_pick (lo := 1) (hi := 99) (by decide) (by omega) (by omega)) ?_
        refine E_iconst (x := (-1)) rfl (by decide) ?_
        refine E_ic (t := 19) (b := false) rfl rfl (by decide) ?_
        refine E_iconst (x := (-1)) rfl (by decide) ?_
        exact E_iret rfl rfl
      refine E_callV (v := some (.int (-1))) (As := [.ref 32, .int a1]) (r0 := []) (cs2 := (w0.set 33 (.inl [0, (-1), (-1), (-1), (-1), (-1), (-1), (-1), (-1), (-1), (-1), (-1), (-1), (-1), (-1), (-1), (-1), (-1), (-1), (-1), (-1), (-1), (-1), (-1), (-1), (-1), (-1), (-1), (-1), (-1), (-1), (-1), (-1), (-1), (-1), (-1), (-1), (-1), (-1), (-1), (-1), (-1), (-1), (-1), (-1), (-1), (-1), (-1), (-1), (-1), (-1), (-1), (-1), (-1), (-1), (-1), (-1), (-1), (-1), (-1), (-1), (-1), (-1), (-1), (-1), (-1), (-1), (-1), (-1), (-1), (-1), (-1), (-1), (-1), (-1), (-1), (-1), (-1), (-1), (-1), (-1), (-1), (-1), (-1), (-1), (-1), (-1), (-1), (-1), (-1), (-1), (-1), (-1), (-1), (-1), (-1), (-1), (-1), (-1), (-1)]))) rfl rfl rfl (Nat.le_of_ble_eq_true rfl) rfl rfl e11 (by decide) rfl ?_
      exact E_iret rfl rfl
    refine E_callV (v := some (.int (-1))) (As := [.ref 32, .ref 1, .int 0, .int a1]) (r0 := []) (cs2 := (w0.set 33 (.inl [0, (-1), (-1), (-1), (-1), (-1), (-1), (-1), (-1), (-1), (-1), (-1), (-1), (-1), (-1), (-1), (-1), (-1), (-1), (-1), (-1), (-1), (-1), (-1), (-1), (-1), (-1), (-1), (-1), (-1), (-1), (-1), (-1), (-1), (-1), (-1), (-1), (-1), (-1), (-1), (-1), (-1), (-1), (-1), (-1), (-1), (-1), (-1), (-1), (-1), (-1), (-1), (-1), (-1), (-1), (-1), (-1), (-1), (-1), (-1), (-1), (-1), (-1), (-1), (-1), (-1), (-1), (-1), (-1), (-1), (-1), (-1), (-1), (-1), (-1), (-1), (-1), (-1), (-1), (-1), (-1), (-1), (-1), (-1), (-1), (-1), (-1), (-1), (-1), (-1), (-1), (-1), (-1), (-1), (-1), (-1), (-1), (-1), (-1), (-1)]))) rfl rfl rfl (Nat.le_of_ble_eq_true rfl) rfl rfl e23 (by decide) (by simp only [List.length_set]) ?_
    exact E_iret rfl rfl, by
    refine Ef.in (md := mX6_change) (L := [some (.ref 65), some (.int a1), some (.int 0)]) rfl (Nat.le_of_ble_eq_true rfl) rfl ?_
    refine E_iload_n rfl rfl ?_
    refine E_if (t := 9) (b := false) rfl rfl (by decide) ?_
    refine E_iload_n rfl rfl ?_
    refine E_iconst (x := 1) rfl (by decide) ?_
    refine E_ic (t := 16) (b := true) rfl rfl (by decide) ?_
    refine E_aload_n rfl rfl ?_
    refine E_iload_n rfl rfl ?_
    refine E_iconst (x := 0) rfl (by decide) ?_
    refine E_bipush (x := 99) rfl (by decide) ?_
    have e10 : Ev ab_Z0 1 134 [.ref 65, .int a1, .int 0, .int 99] (w0.set 33 (.inl [0, (-1), (-1), (-1), (-1), (-1), (-1), (-1), (-1), (-1), (-1), (-1), (-1), (-1), (-1), (-1), (-1), (-1), (-1), (-1), (-1), (-1), (-1), (-1), (-1), (-1), (-1), (-1), (-1), (-1), (-1), (-1), (-1), (-1), (-1), (-1), (-1), (-1), (-1), (-1), (-1), (-1), (-1), (-1), (-1), (-1), (-1), (-1), (-1), (-1), (-1), (-1), (-1), (-1), (-1), (-1), (-1), (-1), (-1), (-1), (-1), (-1), (-1), (-1), (-1), (-1), (-1), (-1), (-1), (-1), (-1), (-1), (-1), (-1), (-1), (-1), (-1), (-1), (-1), (-1), (-1), (-1), (-1), (-1), (-1), (-1), (-1), (-1), (-1), (-1), (-1), (-1), (-1), (-1), (-1), (-1), (-1), (-1), (-1), (-1)])) (some (.int 1), (w0.set 33 (.inl [0, (-1), (-1), (-1), (-1), (-1), (-1), (-1), (-1), (-1), (-1), (-1), (-1), (-1), (-1), (-1), (-1), (-1), (-1), (-1), (-1), (-1), (-1), (-1), (-1), (-1), (-1), (-1), (-1), (-1), (-1), (-1), (-1), (-1), (-1), (-1), (-1), (-1), (-1), (-1), (-1), (-1), (-1), (-1), (-1), (-1), (-1), (-1), (-1), (-1), (-1), (-1), (-1), (-1), (-1), (-1), (-1), (-1), (-1), (-1), (-1), (-1), (-1), (-1), (-1), (-1), (-1), (-1), (-1), (-1), (-1), (-1), (-1), (-1), (-1), (-1), (-1), (-1), (-1), (-1), (-1), (-1), (-1), (-1), (-1), (-1), (-1), (-1), (-1), (-1), (-1), (-1), (-1), (-1), (-1), (-1), (-1), (-1), (-1), (-1)]))) := by
      refine Ef.in (md := mX6_isFrom) (L := [some (.ref 65), some (.int a1), some (.int 0), some (.int 99)]) rfl (Nat.le_of_ble_eq_true rfl) rfl ?_
      refine E_iload_n rfl rfl ?_
      refine E_iload_n rfl rfl ?_
      refine E_ic (t := 14) (b := false) rfl rfl ((cn_lt (rfl : (a1).toInt = (a1).toInt) (by decide : (0 : Int32).toInt = 0)).trans (decide_eq_false (by omega))) ?_
      refine E_iload_n rfl rfl ?_
      refine E_iload_n rfl rfl ?_
      refine E_ic (t := 14) (b := false) rfl rfl ((cn_gt (rfl : (a1).toInt = (a1).toInt) (by decide : (99 : Int32).toInt = 99)).trans (decide_eq_false (by omega))) ?_
      refine E_iconst (x := 1) rfl (by decide) ?_
      refine E_goto (t := 15) rfl rfl ?_
      exact E_iret rfl rfl
    refine E_callV (v := some (.int 1)) (As := [.ref 65, .int a1, .int 0, .int 99]) (r0 := []) (cs2 := (w0.set 33 (.inl [0, (-1), (-1), (-1), (-1), (-1), (-1), (-1), (-1), (-1), (-1), (-1), (-1), (-1), (-1), (-1), (-1), (-1), (-1), (-1), (-1), (-1), (-1), (-1), (-1), (-1), (-1), (-1), (-1), (-1), (-1), (-1), (-1), (-1), (-1), (-1), (-1), (-1), (-1), (-1), (-1), (-1), (-1), (-1), (-1), (-1), (-1), (-1), (-1), (-1), (-1), (-1), (-1), (-1), (-1), (-1), (-1), (-1), (-1), (-1), (-1), (-1), (-1), (-1), (-1), (-1), (-1), (-1), (-1), (-1), (-1), (-1), (-1), (-1), (-1), (-1), (-1), (-1), (-1), (-1), (-1), (-1), (-1), (-1), (-1), (-1), (-1), (-1), (-1), (-1), (-1), (-1), (-1), (-1), (-1), (-1), (-1), (-1), (-1), (-1)]))) rfl rfl rfl (Nat.le_of_ble_eq_true rfl) rfl rfl e10 (by decide) rfl ?_
    refine E_if (t := 34) (b := true) rfl rfl (by decide) ?_
    refine E_aload_n rfl rfl ?_
    refine E_aload_n rfl rfl ?_
    refine E_bipush (x := 99) rfl (by decide) ?_
    refine E_callV (v := some (.int 0)) (As := [.ref 65, .int 99]) (r0 := [.ref 65]) (cs2 := (w0.set 33 (.inl [0, (-1), (-1), (-1), (-1), (-1), (-1), (-1), (-1), (-1), (-1), (-1), (-1), (-1), (-1), (-1), (-1), (-1), (-1), (-1), (-1), (-1), (-1), (-1), (-1), (-1), (-1), (-1), (-1), (-1), (-1), (-1), (-1), (-1), (-1), (-1), (-1), (-1), (-1), (-1), (-1), (-1), (-1), (-1), (-1), (-1), (-1), (-1), (-1), (-1), (-1), (-1), (-1), (-1), (-1), (-1), (-1), (-1), (-1), (-1), (-1), (-1), (-1), (-1), (-1), (-1), (-1), (-1), (-1), (-1), (-1), (-1), (-1), (-1), (-1), (-1), (-1), (-1), (-1), (-1), (-1), (-1), (-1), (-1), (-1), (-1), (-1), (-1), (-1), (-1), (-1), (-1), (-1), (-1), (-1), (-1), (-1), (-1), (-1), (-1)]))) rfl rfl rfl (Nat.le_of_ble_eq_true rfl) rfl rfl c237_X6_piecesOf (by decide) rfl ?_
    refine E_callV (v := none) (As := [.ref 65, .int 0]) (r0 := []) (cs2 := ((w0.set 33 (.inl [0, (-1), (-1), (-1), (-1), (-1), (-1), (-1), (-1), (-1), (-1), (-1), (-1), (-1), (-1), (-1), (-1), (-1), (-1), (-1), (-1), (-1), (-1), (-1), (-1), (-1), (-1), (-1), (-1), (-1), (-1), (-1), (-1), (-1), (-1), (-1), (-1), (-1), (-1), (-1), (-1), (-1), (-1), (-1), (-1), (-1), (-1), (-1), (-1), (-1), (-1), (-1), (-1), (-1), (-1), (-1), (-1), (-1), (-1), (-1), (-1), (-1), (-1), (-1), (-1), (-1), (-1), (-1), (-1), (-1), (-1), (-1), (-1), (-1), (-1), (-1), (-1), (-1), (-1), (-1), (-1), (-1), (-1), (-1), (-1), (-1), (-1), (-1), (-1), (-1), (-1), (-1), (-1), (-1), (-1), (-1), (-1), (-1), (-1), (-1)])).set 89 (.inl [0, (-1), (-1), (-1), (-1), (-1), (-1), (-1), (-1), (-1), (-1), (-1), (-1), (-1), (-1), (-1), (-1), (-1), (-1), (-1), (-1), (-1), (-1), (-1), (-1), (-1), (-1), (-1), (-1), (-1), (-1), (-1), (-1), (-1), (-1), (-1), (-1), (-1), (-1), (-1), (-1), (-1), (-1), (-1), (-1), (-1), (-1), (-1), (-1), (-1), (-1), (-1), (-1), (-1), (-1), (-1), (-1), (-1), (-1), (-1), (-1), (-1), (-1), (-1), (-1), (-1), (-1), (-1), (-1), (-1), (-1), (-1), (-1), (-1), (-1), (-1), (-1), (-1), (-1), (-1), (-1), (-1), (-1), (-1), (-1), (-1), (-1), (-1), (-1), (-1), (-1), (-1), (-1), (-1), (-1), (-1), (-1), (-1), (-1), (-1)]))) rfl rfl rfl (Nat.le_of_ble_eq_true rfl) rfl rfl c238_X6_tellsBest (by decide) (by simp only [List.length_set]) ?_
    refine E_iload_n rfl rfl ?_
    refine E_if (t := 57) (b := false) rfl rfl (by decide) ?_
    refine E_aload_n rfl rfl ?_
    refine E_getfield (v := .ref 89) rfl rfl rfl (by decide) rfl ?_
    refine E_iload_n rfl rfl ?_
    refine E_iaload (x := (-1)) (j := a1.toNatClampNeg) rfl rfl (ab_nneg (by omega)) rfl (ab_pick (lo := 1) (hi := 99) (by decide) (by omega) (by omega)) ?_
    refine E_goto (t := 62) rfl rfl ?_
    exact E_iret rfl rfl, (by simp only [List.length_set]; rfl), (by simp only [List.length_set]; rfl), ((ab_szs rfl).trans ((ab_szs rfl).trans rfl)), fun _ => rfl⟩
theorem f_change_5 (a1 : Int32) (ha1l : (100 : Int) ≤ a1.toInt) : p1_P 5 93 4 173 [.ref 0, .int a1, .int 0] [.ref 65, .int a1, .int 0] :=
  ⟨(-16), (w0.set 48 (.inl [0, 0, 0, 0, 0, 0, 1, 0])), ((w0.set 48 (.inl [0, 0, 0, 0, 0, 0, 1, 0])).set 66 (.inl [0, 0, 0, 0, 0, 0, 1, 0])), by
    refine Ef.in (md := mX5_change) (L := [some (.ref 0), some (.int a1), some (.int 0)]) rfl (Nat.le_of_ble_eq_true rfl) rfl ?_
    refine E_iload_n rfl rfl ?_
    refine E_callS (v := some (.int 1)) (As := [.int 0]) (r0 := []) (cs2 := w0) rfl rfl rfl (Nat.le_of_ble_eq_true rfl) rfl c230_X5_isOneOfTwo (by decide) rfl ?_
    refine E_if (t := 16) (b := true) rfl rfl (by decide) ?_
    refine E_iload_n rfl rfl ?_
    have e5 : Ev ab_Z0 1 48 [.int a1] w0 (some (.int 0), w0) := by
      refine Ef.in (md := mX4_isAmount) (L := [some (.int a1)]) rfl (Nat.le_of_ble_eq_true rfl) rfl ?_
      refine E_iload_n rfl rfl ?_
      refine E_if (t := 14) (b := false) rfl rfl ((cn_lt (rfl : (a1).toInt = (a1).toInt) (by decide : (0 : Int32).toInt = 0)).trans (decide_eq_false (by omega))) ?_
      refine E_iload_n rfl rfl ?_
      refine E_bipush (x := 100) rfl (by decide) ?_
      refine E_ic (t := 14) (b := true) rfl rfl ((cn_ge (rfl : (a1).toInt = (a1).toInt) (by decide : (100 : Int32).toInt = 100)).trans (decide_eq_true (by omega))) ?_
      refine E_iconst (x := 0) rfl (by decide) ?_
      exact E_iret rfl rfl
    refine E_callS (v := some (.int 0)) (As := [.int a1]) (r0 := []) (cs2 := w0) rfl rfl rfl (Nat.le_of_ble_eq_true rfl) rfl e5 (by decide) rfl ?_
    refine E_if (t := 33) (b := false) rfl rfl (by decide) ?_
    refine E_aload_n rfl rfl ?_
    refine E_bipush (x := 6) rfl (by decide) ?_
    refine E_callV (v := some (.int (-6))) (As := [.ref 0, .int 6]) (r0 := []) (cs2 := (w0.set 48 (.inl [0, 0, 0, 0, 0, 0, 1, 0]))) rfl rfl rfl (Nat.le_of_ble_eq_true rfl) rfl rfl c7_X5_refuse (by decide) (by simp only [List.length_set]) ?_
    refine E_bipush (x := 10) rfl (by decide) ?_
    refine E_isub (z := (-16)) rfl (by decide) ?_
    exact E_iret rfl rfl, by
    refine Ef.in (md := mX6_change) (L := [some (.ref 65), some (.int a1), some (.int 0)]) rfl (Nat.le_of_ble_eq_true rfl) rfl ?_
    refine E_iload_n rfl rfl ?_
    refine E_if (t := 9) (b := false) rfl rfl (by decide) ?_
    refine E_iload_n rfl rfl ?_
    refine E_iconst (x := 1) rfl (by decide) ?_
    refine E_ic (t := 16) (b := true) rfl rfl (by decide) ?_
    refine E_aload_n rfl rfl ?_
    refine E_iload_n rfl rfl ?_
    refine E_iconst (x := 0) rfl (by decide) ?_
    refine E_bipush (x := 99) rfl (by decide) ?_
    have e10 : Ev ab_Z0 1 134 [.ref 65, .int a1, .int 0, .int 99] (w0.set 48 (.inl [0, 0, 0, 0, 0, 0, 1, 0])) (some (.int 0), (w0.set 48 (.inl [0, 0, 0, 0, 0, 0, 1, 0]))) := by
      refine Ef.in (md := mX6_isFrom) (L := [some (.ref 65), some (.int a1), some (.int 0), some (.int 99)]) rfl (Nat.le_of_ble_eq_true rfl) rfl ?_
      refine E_iload_n rfl rfl ?_
      refine E_iload_n rfl rfl ?_
      refine E_ic (t := 14) (b := false) rfl rfl ((cn_lt (rfl : (a1).toInt = (a1).toInt) (by decide : (0 : Int32).toInt = 0)).trans (decide_eq_false (by omega))) ?_
      refine E_iload_n rfl rfl ?_
      refine E_iload_n rfl rfl ?_
      refine E_ic (t := 14) (b := true) rfl rfl ((cn_gt (rfl : (a1).toInt = (a1).toInt) (by decide : (99 : Int32).toInt = 99)).trans (decide_eq_true (by omega))) ?_
      refine E_iconst (x := 0) rfl (by decide) ?_
      exact E_iret rfl rfl
    refine E_callV (v := some (.int 0)) (As := [.ref 65, .int a1, .int 0, .int 99]) (r0 := []) (cs2 := (w0.set 48 (.inl [0, 0, 0, 0, 0, 0, 1, 0]))) rfl rfl rfl (Nat.le_of_ble_eq_true rfl) rfl rfl e10 (by decide) rfl ?_
    refine E_if (t := 34) (b := false) rfl rfl (by decide) ?_
    refine E_aload_n rfl rfl ?_
    refine E_bipush (x := (-6)) rfl (by decide) ?_
    refine E_callV (v := some (.int (-16))) (As := [.ref 65, .int (-6)]) (r0 := []) (cs2 := ((w0.set 48 (.inl [0, 0, 0, 0, 0, 0, 1, 0])).set 66 (.inl [0, 0, 0, 0, 0, 0, 1, 0]))) rfl rfl rfl (Nat.le_of_ble_eq_true rfl) rfl rfl c231_X6_noTen (by decide) (by simp only [List.length_set]) ?_
    exact E_iret rfl rfl, (by simp only [List.length_set]; rfl), (by simp only [List.length_set]; rfl), ((ab_szs rfl).trans ((ab_szs rfl).trans rfl)), fun _ => rfl⟩
theorem f_change_6 (a1 : Int32) (ha1h : a1.toInt ≤ -1) : p1_P 5 93 4 173 [.ref 0, .int a1, .int 1] [.ref 65, .int a1, .int 1] :=
  ⟨(-16), (w0.set 48 (.inl [0, 0, 0, 0, 0, 0, 1, 0])), ((w0.set 48 (.inl [0, 0, 0, 0, 0, 0, 1, 0])).set 66 (.inl [0, 0, 0, 0, 0, 0, 1, 0])), by
    refine Ef.in (md := mX5_change) (L := [some (.ref 0), some (.int a1), some (.int 1)]) rfl (Nat.le_of_ble_eq_true rfl) rfl ?_
    refine E_iload_n rfl rfl ?_
    refine E_callS (v := some (.int 1)) (As := [.int 1]) (r0 := []) (cs2 := w0) rfl rfl rfl (Nat.le_of_ble_eq_true rfl) rfl c239_X5_isOneOfTwo (by decide) rfl ?_
    refine E_if (t := 16) (b := true) rfl rfl (by decide) ?_
    refine E_iload_n rfl rfl ?_
    have e5 : Ev ab_Z0 1 48 [.int a1] w0 (some (.int 0), w0) := by
      refine Ef.in (md := mX4_isAmount) (L := [some (.int a1)]) rfl (Nat.le_of_ble_eq_true rfl) rfl ?_
      refine E_iload_n rfl rfl ?_
      refine E_if (t := 14) (b := true) rfl rfl ((cn_lt (rfl : (a1).toInt = (a1).toInt) (by decide : (0 : Int32).toInt = 0)).trans (decide_eq_true (by omega))) ?_
      refine E_iconst (x := 0) rfl (by decide) ?_
      exact E_iret rfl rfl
    refine E_callS (v := some (.int 0)) (As := [.int a1]) (r0 := []) (cs2 := w0) rfl rfl rfl (Nat.le_of_ble_eq_true rfl) rfl e5 (by decide) rfl ?_
    refine E_if (t := 33) (b := false) rfl rfl (by decide) ?_
    refine E_aload_n rfl rfl ?_
    refine E_bipush (x := 6) rfl (by decide) ?_
    refine E_callV (v := some (.int (-6))) (As := [.ref 0, .int 6]) (r0 := []) (cs2 := (w0.set 48 (.inl [0, 0, 0, 0, 0, 0, 1, 0]))) rfl rfl rfl (Nat.le_of_ble_eq_true rfl) rfl rfl c7_X5_refuse (by decide) (by simp only [List.length_set]) ?_
    refine E_bipush (x := 10) rfl (by decide) ?_
    refine E_isub (z := (-16)) rfl (by decide) ?_
    exact E_iret rfl rfl, by
    refine Ef.in (md := mX6_change) (L := [some (.ref 65), some (.int a1), some (.int 1)]) rfl (Nat.le_of_ble_eq_true rfl) rfl ?_
    refine E_iload_n rfl rfl ?_
    refine E_if (t := 9) (b := false) rfl rfl (by decide) ?_
    refine E_iload_n rfl rfl ?_
    refine E_iconst (x := 1) rfl (by decide) ?_
    refine E_ic (t := 16) (b := true) rfl rfl (by decide) ?_
    refine E_aload_n rfl rfl ?_
    refine E_iload_n rfl rfl ?_
    refine E_iconst (x := 0) rfl (by decide) ?_
    refine E_bipush (x := 99) rfl (by decide) ?_
    have e10 : Ev ab_Z0 1 134 [.ref 65, .int a1, .int 0, .int 99] (w0.set 48 (.inl [0, 0, 0, 0, 0, 0, 1, 0])) (some (.int 0), (w0.set 48 (.inl [0, 0, 0, 0, 0, 0, 1, 0]))) := by
      refine Ef.in (md := mX6_isFrom) (L := [some (.ref 65), some (.int a1), some (.int 0), some (.int 99)]) rfl (Nat.le_of_ble_eq_true rfl) rfl ?_
      refine E_iload_n rfl rfl ?_
      refine E_iload_n rfl rfl ?_
      refine E_ic (t := 14) (b := true) rfl rfl ((cn_lt (rfl : (a1).toInt = (a1).toInt) (by decide : (0 : Int32).toInt = 0)).trans (decide_eq_true (by omega))) ?_
      refine E_iconst (x := 0) rfl (by decide) ?_
      exact E_iret rfl rfl
    refine E_callV (v := some (.int 0)) (As := [.ref 65, .int a1, .int 0, .int 99]) (r0 := []) (cs2 := (w0.set 48 (.inl [0, 0, 0, 0, 0, 0, 1, 0]))) rfl rfl rfl (Nat.le_of_ble_eq_true rfl) rfl rfl e10 (by decide) rfl ?_
    refine E_if (t := 34) (b := false) rfl rfl (by decide) ?_
    refine E_aload_n rfl rfl ?_
    refine E_bipush (x := (-6)) rfl (by decide) ?_
    refine E_callV (v := some (.int (-16))) (As := [.ref 65, .int (-6)]) (r0 := []) (cs2 := ((w0.set 48 (.inl [0, 0, 0, 0, 0, 0, 1, 0])).set 66 (.inl [0, 0, 0, 0, 0, 0, 1, 0]))) rfl rfl rfl (Nat.le_of_ble_eq_true rfl) rfl rfl c231_X6_noTen (by decide) (by simp only [List.length_set]) ?_
    exact E_iret rfl rfl, (by simp only [List.length_set]; rfl), (by simp only [List.length_set]; rfl), ((ab_szs rfl).trans ((ab_szs rfl).trans rfl)), fun _ => rfl⟩
theorem f_change_7 : p1_P 5 93 4 173 [.ref 0, .int 0, .int 1] [.ref 65, .int 0, .int 1] :=
  ⟨0, w0, (w0.set 89 (.inl [0, (-1), (-1), (-1), (-1), (-1), (-1), (-1), (-1), (-1), (-1), (-1), (-1), (-1), (-1), (-1), (-1), (-1), (-1), (-1), (-1), (-1), (-1), (-1), (-1), (-1), (-1), (-1), (-1), (-1), (-1), (-1), (-1), (-1), (-1), (-1), (-1), (-1), (-1), (-1), (-1), (-1), (-1), (-1), (-1), (-1), (-1), (-1), (-1), (-1), (-1), (-1), (-1), (-1), (-1), (-1), (-1), (-1), (-1), (-1), (-1), (-1), (-1), (-1), (-1), (-1), (-1), (-1), (-1), (-1), (-1), (-1), (-1), (-1), (-1), (-1), (-1), (-1), (-1), (-1), (-1), (-1), (-1), (-1), (-1), (-1), (-1), (-1), (-1), (-1), (-1), (-1), (-1), (-1), (-1), (-1), (-1), (-1), (-1), (-1)])), by
    exact c240_X5_change, by
    exact c244_X6_change, rfl, (by simp only [List.length_set]; rfl), ((ab_szs rfl).trans rfl), fun _ => rfl⟩
theorem f_change_8 (a1 : Int32) (ha1l : (1 : Int) ≤ a1.toInt) (ha1h : a1.toInt ≤ 99) : p1_P 5 93 4 173 [.ref 0, .int a1, .int 1] [.ref 65, .int a1, .int 1] :=
  ⟨(-1), w0, (w0.set 89 (.inl [0, (-1), (-1), (-1), (-1), (-1), (-1), (-1), (-1), (-1), (-1), (-1), (-1), (-1), (-1), (-1), (-1), (-1), (-1), (-1), (-1), (-1), (-1), (-1), (-1), (-1), (-1), (-1), (-1), (-1), (-1), (-1), (-1), (-1), (-1), (-1), (-1), (-1), (-1), (-1), (-1), (-1), (-1), (-1), (-1), (-1), (-1), (-1), (-1), (-1), (-1), (-1), (-1), (-1), (-1), (-1), (-1), (-1), (-1), (-1), (-1), (-1), (-1), (-1), (-1), (-1), (-1), (-1), (-1), (-1), (-1), (-1), (-1), (-1), (-1), (-1), (-1), (-1), (-1), (-1), (-1), (-1), (-1), (-1), (-1), (-1), (-1), (-1), (-1), (-1), (-1), (-1), (-1), (-1), (-1), (-1), (-1), (-1), (-1), (-1)])), by
    refine Ef.in (md := mX5_change) (L := [some (.ref 0), some (.int a1), some (.int 1)]) rfl (Nat.le_of_ble_eq_true rfl) rfl ?_
    refine E_iload_n rfl rfl ?_
    refine E_callS (v := some (.int 1)) (As := [.int 1]) (r0 := []) (cs2 := w0) rfl rfl rfl (Nat.le_of_ble_eq_true rfl) rfl c239_X5_isOneOfTwo (by decide) rfl ?_
    refine E_if (t := 16) (b := true) rfl rfl (by decide) ?_
    refine E_iload_n rfl rfl ?_
    have e5 : Ev ab_Z0 1 48 [.int a1] w0 (some (.int 1), w0) := by
      refine Ef.in (md := mX4_isAmount) (L := [some (.int a1)]) rfl (Nat.le_of_ble_eq_true rfl) rfl ?_
      refine E_iload_n rfl rfl ?_
      refine E_if (t := 14) (b := false) rfl rfl ((cn_lt (rfl : (a1).toInt = (a1).toInt) (by decide : (0 : Int32).toInt = 0)).trans (decide_eq_false (by omega))) ?_
      refine E_iload_n rfl rfl ?_
      refine E_bipush (x := 100) rfl (by decide) ?_
      refine E_ic (t := 14) (b := false) rfl rfl ((cn_ge (rfl : (a1).toInt = (a1).toInt) (by decide : (100 : Int32).toInt = 100)).trans (decide_eq_false (by omega))) ?_
      refine E_iconst (x := 1) rfl (by decide) ?_
      refine E_goto (t := 15) rfl rfl ?_
      exact E_iret rfl rfl
    refine E_callS (v := some (.int 1)) (As := [.int a1]) (r0 := []) (cs2 := w0) rfl rfl rfl (Nat.le_of_ble_eq_true rfl) rfl e5 (by decide) rfl ?_
    refine E_if (t := 33) (b := true) rfl rfl (by decide) ?_
    refine E_aload_n rfl rfl ?_
    refine E_getfield (v := .ref 32) rfl rfl rfl (by decide) rfl ?_
    refine E_aload_n rfl rfl ?_
    refine E_getfield (v := .ref 1) rfl rfl rfl (by decide) rfl ?_
    refine E_iload_n rfl rfl ?_
    refine E_iload_n rfl rfl ?_
    have e23 : Ev ab_Z0 4 1 [.ref 32, .ref 1, .int 1, .int a1] w0 (some (.int (-1)), w0) := by
      refine Ef.in (md := mX0_bitsBy) (L := [some (.ref 32), some (.ref 1), some (.int 1), some (.int a1)]) rfl (Nat.le_of_ble_eq_true rfl) rfl ?_
      refine E_iload_n rfl rfl ?_
      refine E_iconst (x := 1) rfl (by decide) ?_
      refine E_ic (t := 11) (b := false) rfl rfl (by decide) ?_
      refine E_aload_n rfl rfl ?_
      refine E_iload_n rfl rfl ?_
      have e6 : Ev ab_Z0 3 69 [.ref 1, .int a1] w0 (some (.int (-1)), w0) := by
        refine Ef.in (md := mX4_greedyFor) (L := [some (.ref 1), some (.int a1), none, none, none, none, none]) rfl (Nat.le_of_ble_eq_true rfl) rfl ?_
        refine E_iload_n rfl rfl ?_
        refine E_istore_n (L2 := [some (.ref 1), some (.int a1), some (.int a1), none, none, none, none]) rfl rfl ?_
        refine E_aload_n rfl rfl ?_
        refine E_callV (v := some (.int 0)) (As := [.ref 1]) (r0 := []) (cs2 := w0) rfl rfl rfl (Nat.le_of_ble_eq_true rfl) rfl rfl c232_X4_basin (by decide) rfl ?_
        refine E_istore_n (L2 := [some (.ref 1), some (.int a1), some (.int a1), some (.int 0), none, none, none]) rfl rfl ?_
        refine E_iconst (x := 0) rfl (by decide) ?_
        refine E_istore (L2 := [some (.ref 1), some (.int a1), some (.int a1), some (.int 0), some (.int 0), none, none]) rfl rfl ?_
        refine E_iconst (x := 0) rfl (by decide) ?_
        refine E_istore (L2 := [some (.ref 1), some (.int a1), some (.int a1), some (.int 0), some (.int 0), some (.int 0), none]) rfl rfl ?_
        refine E_iload rfl rfl ?_
        refine E_bipush (x := 9) rfl (by decide) ?_
        refine E_ic (t := 71) (b := false) rfl rfl (by decide) ?_
        refine E_iload_n rfl rfl ?_
        refine E_if (t := 71) (b := false) rfl rfl ((cn_le (rfl : (a1).toInt = (a1).toInt) (by decide : (0 : Int32).toInt = 0)).trans (decide_eq_false (by omega))) ?_
        refine E_aload_n rfl rfl ?_
        refine E_iload_n rfl rfl ?_
        refine E_iload_n rfl rfl ?_
        have e18 : Ev ab_Z0 2 70 [.ref 1, .int a1, .int 0] w0 (some (.int (-1)), w0) := by
          refine Ef.in (md := mX4_greatestUpTo) (L := [some (.ref 1), some (.int a1), some (.int 0), none, none, none, none]) rfl (Nat.le_of_ble_eq_true rfl) rfl ?_
          refine E_iconst (x := (-1)) rfl (by decide) ?_
          refine E_istore_n (L2 := [some (.ref 1), some (.int a1), some (.int 0), some (.int (-1)), none, none, none]) rfl rfl ?_
          refine E_iconst (x := 0) rfl (by decide) ?_
          refine E_istore (L2 := [some (.ref 1), some (.int a1), some (.int 0), some (.int (-1)), some (.int 0), none, none]) rfl rfl ?_
          refine E_iconst (x := 0) rfl (by decide) ?_
          refine E_istore (L2 := [some (.ref 1), some (.int a1), some (.int 0), some (.int (-1)), some (.int 0), some (.int 0), none]) rfl rfl ?_
          refine E_iload rfl rfl ?_
          refine E_aload_n rfl rfl ?_
          refine E_getfield (v := .int 0) rfl rfl rfl (by decide) rfl ?_
          refine E_ic (t := 60) (b := true) rfl rfl (by decide) ?_
          refine E_iload_n rfl rfl ?_
          exact E_iret rfl rfl
        refine E_callV (v := some (.int (-1))) (As := [.ref 1, .int a1, .int 0]) (r0 := []) (cs2 := w0) rfl rfl rfl (Nat.le_of_ble_eq_true rfl) rfl rfl e18 (by decide) rfl ?_
        refine E_istore (L2 := [some (.ref 1), some (.int a1), some (.int a1), some (.int 0), some (.int 0), some (.int 0), some (.int (-1))]) rfl rfl ?_
        refine E_iload rfl rfl ?_
        refine E_iconst (x := (-1)) rfl (by decide) ?_
        refine E_ic (t := 40) (b := false) rfl rfl (by decide) ?_
        refine E_iconst (x := (-1)) rfl (by decide) ?_
        exact E_iret rfl rfl
      refine E_callV (v := some (.int (-1))) (As := [.ref 1, .int a1]) (r0 := []) (cs2 := w0) rfl rfl rfl (Nat.le_of_ble_eq_true rfl) rfl rfl e6 (by decide) rfl ?_
      exact E_iret rfl rfl
    refine E_callV (v := some (.int (-1))) (As := [.ref 32, .ref 1, .int 1, .int a1]) (r0 := []) (cs2 := w0) rfl rfl rfl (Nat.le_of_ble_eq_true rfl) rfl rfl e23 (by decide) rfl ?_
    exact E_iret rfl rfl, by
    refine Ef.in (md := mX6_change) (L := [some (.ref 65), some (.int a1), some (.int 1)]) rfl (Nat.le_of_ble_eq_true rfl) rfl ?_
    refine E_iload_n rfl rfl ?_
    refine E_if (t := 9) (b := false) rfl rfl (by decide) ?_
    refine E_iload_n rfl rfl ?_
    refine E_iconst (x := 1) rfl (by decide) ?_
    refine E_ic (t := 16) (b := true) rfl rfl (by decide) ?_
    refine E_aload_n rfl rfl ?_
    refine E_iload_n rfl rfl ?_
    refine E_iconst (x := 0) rfl (by decide) ?_
    refine E_bipush (x := 99) rfl (by decide) ?_
    have e10 : Ev ab_Z0 1 134 [.ref 65, .int a1, .int 0, .int 99] w0 (some (.int 1), w0) := by
      refine Ef.in (md := mX6_isFrom) (L := [some (.ref 65), some (.int a1), some (.int 0), some (.int 99)]) rfl (Nat.le_of_ble_eq_true rfl) rfl ?_
      refine E_iload_n rfl rfl ?_
      refine E_iload_n rfl rfl ?_
      refine E_ic (t := 14) (b := false) rfl rfl ((cn_lt (rfl : (a1).toInt = (a1).toInt) (by decide : (0 : Int32).toInt = 0)).trans (decide_eq_false (by omega))) ?_
      refine E_iload_n rfl rfl ?_
      refine E_iload_n rfl rfl ?_
      refine E_ic (t := 14) (b := false) rfl rfl ((cn_gt (rfl : (a1).toInt = (a1).toInt) (by decide : (99 : Int32).toInt = 99)).trans (decide_eq_false (by omega))) ?_
      refine E_iconst (x := 1) rfl (by decide) ?_
      refine E_goto (t := 15) rfl rfl ?_
      exact E_iret rfl rfl
    refine E_callV (v := some (.int 1)) (As := [.ref 65, .int a1, .int 0, .int 99]) (r0 := []) (cs2 := w0) rfl rfl rfl (Nat.le_of_ble_eq_true rfl) rfl rfl e10 (by decide) rfl ?_
    refine E_if (t := 34) (b := true) rfl rfl (by decide) ?_
    refine E_aload_n rfl rfl ?_
    refine E_aload_n rfl rfl ?_
    refine E_bipush (x := 99) rfl (by decide) ?_
    refine E_callV (v := some (.int 0)) (As := [.ref 65, .int 99]) (r0 := [.ref 65]) (cs2 := w0) rfl rfl rfl (Nat.le_of_ble_eq_true rfl) rfl rfl c245_X6_piecesOf (by decide) rfl ?_
    refine E_callV (v := none) (As := [.ref 65, .int 0]) (r0 := []) (cs2 := (w0.set 89 (.inl [0, (-1), (-1), (-1), (-1), (-1), (-1), (-1), (-1), (-1), (-1), (-1), (-1), (-1), (-1), (-1), (-1), (-1), (-1), (-1), (-1), (-1), (-1), (-1), (-1), (-1), (-1), (-1), (-1), (-1), (-1), (-1), (-1), (-1), (-1), (-1), (-1), (-1), (-1), (-1), (-1), (-1), (-1), (-1), (-1), (-1), (-1), (-1), (-1), (-1), (-1), (-1), (-1), (-1), (-1), (-1), (-1), (-1), (-1), (-1), (-1), (-1), (-1), (-1), (-1), (-1), (-1), (-1), (-1), (-1), (-1), (-1), (-1), (-1), (-1), (-1), (-1), (-1), (-1), (-1), (-1), (-1), (-1), (-1), (-1), (-1), (-1), (-1), (-1), (-1), (-1), (-1), (-1), (-1), (-1), (-1), (-1), (-1), (-1), (-1)]))) rfl rfl rfl (Nat.le_of_ble_eq_true rfl) rfl rfl c246_X6_tellsBest (by decide) (by simp only [List.length_set]) ?_
    refine E_iload_n rfl rfl ?_
    refine E_if (t := 57) (b := true) rfl rfl (by decide) ?_
    refine E_aload_n rfl rfl ?_
    refine E_iload_n rfl rfl ?_
    have e32 : Ev ab_Z0 2 171 [.ref 65, .int a1] (w0.set 89 (.inl [0, (-1), (-1), (-1), (-1), (-1), (-1), (-1), (-1), (-1), (-1), (-1), (-1), (-1), (-1), (-1), (-1), (-1), (-1), (-1), (-1), (-1), (-1), (-1), (-1), (-1), (-1), (-1), (-1), (-1), (-1), (-1), (-1), (-1), (-1), (-1), (-1), (-1), (-1), (-1), (-1), (-1), (-1), (-1), (-1), (-1), (-1), (-1), (-1), (-1), (-1), (-1), (-1), (-1), (-1), (-1), (-1), (-1), (-1), (-1), (-1), (-1), (-1), (-1), (-1), (-1), (-1), (-1), (-1), (-1), (-1), (-1), (-1), (-1), (-1), (-1), (-1), (-1), (-1), (-1), (-1), (-1), (-1), (-1), (-1), (-1), (-1), (-1), (-1), (-1), (-1), (-1), (-1), (-1), (-1), (-1), (-1), (-1), (-1), (-1)])) (some (.int (-1)), (w0.set 89 (.inl [0, (-1), (-1), (-1), (-1), (-1), (-1), (-1), (-1), (-1), (-1), (-1), (-1), (-1), (-1), (-1), (-1), (-1), (-1), (-1), (-1), (-1), (-1), (-1), (-1), (-1), (-1), (-1), (-1), (-1), (-1), (-1), (-1), (-1), (-1), (-1), (-1), (-1), (-1), (-1), (-1), (-1), (-1), (-1), (-1), (-1), (-1), (-1), (-1), (-1), (-1), (-1), (-1), (-1), (-1), (-1), (-1), (-1), (-1), (-1), (-1), (-1), (-1), (-1), (-1), (-1), (-1), (-1), (-1), (-1), (-1), (-1), (-1), (-1), (-1), (-1), (-1), (-1), (-1), (-1), (-1), (-1), (-1), (-1), (-1), (-1), (-1), (-1), (-1), (-1), (-1), (-1), (-1), (-1), (-1), (-1), (-1), (-1), (-1), (-1)]))) := by
      refine Ef.in (md := mX6_greedyFor) (L := [some (.ref 65), some (.int a1), none, none, none, none]) rfl (Nat.le_of_ble_eq_true rfl) rfl ?_
      refine E_iload_n rfl rfl ?_
      refine E_istore_n (L2 := [some (.ref 65), some (.int a1), some (.int a1), none, none, none]) rfl rfl ?_
      refine E_iconst (x := 0) rfl (by decide) ?_
      refine E_istore_n (L2 := [some (.ref 65), some (.int a1), some (.int a1), some (.int 0), none, none]) rfl rfl ?_
      refine E_iload_n rfl rfl ?_
      refine E_if (t := 116) (b := false) rfl rfl ((cn_le (rfl : (a1).toInt = (a1).toInt) (by decide : (0 : Int32).toInt = 0)).trans (decide_eq_false (by omega))) ?_
      refine E_iconst (x := (-1)) rfl (by decide) ?_
      refine E_istore (L2 := [some (.ref 65), some (.int a1), some (.int a1), some (.int 0), some (.int (-1)), none]) rfl rfl ?_
      refine E_iconst (x := 0) rfl (by decide) ?_
      refine E_istore (L2 := [some (.ref 65), some (.int a1), some (.int a1), some (.int 0), some (.int (-1)), some (.int 0)]) rfl rfl ?_
      refine E_iload rfl rfl ?_
      refine E_aload_n rfl rfl ?_
      refine E_getfield (v := .int 0) rfl rfl rfl (by decide) rfl ?_
      refine E_ic (t := 89) (b := true) rfl rfl (by decide) ?_
      refine E_iload rfl rfl ?_
      refine E_iconst (x := (-1)) rfl (by decide) ?_
      refine E_ic (t := 97) (b := false) rfl rfl (by decide) ?_
      refine E_iconst (x := (-1)) rfl (by decide) ?_
      exact E_iret rfl rfl
    refine E_callV (v := some (.int (-1))) (As := [.ref 65, .int a1]) (r0 := []) (cs2 := (w0.set 89 (.inl [0, (-1), (-1), (-1), (-1), (-1), (-1), (-1), (-1), (-1), (-1), (-1), (-1), (-1), (-1), (-1), (-1), (-1), (-1), (-1), (-1), (-1), (-1), (-1), (-1), (-1), (-1), (-1), (-1), (-1), (-1), (-1), (-1), (-1), (-1), (-1), (-1), (-1), (-1), (-1), (-1), (-1), (-1), (-1), (-1), (-1), (-1), (-1), (-1), (-1), (-1), (-1), (-1), (-1), (-1), (-1), (-1), (-1), (-1), (-1), (-1), (-1), (-1), (-1), (-1), (-1), (-1), (-1), (-1), (-1), (-1), (-1), (-1), (-1), (-1), (-1), (-1), (-1), (-1), (-1), (-1), (-1), (-1), (-1), (-1), (-1), (-1), (-1), (-1), (-1), (-1), (-1), (-1), (-1), (-1), (-1), (-1), (-1), (-1), (-1)]))) rfl rfl rfl (Nat.le_of_ble_eq_true rfl) rfl rfl e32 (by decide) rfl ?_
    exact E_iret rfl rfl, rfl, (by simp only [List.length_set]; rfl), ((ab_szs rfl).trans rfl), fun _ => rfl⟩
theorem f_change_9 (a1 : Int32) (ha1l : (100 : Int) ≤ a1.toInt) : p1_P 5 93 4 173 [.ref 0, .int a1, .int 1] [.ref 65, .int a1, .int 1] :=
  ⟨(-16), (w0.set 48 (.inl [0, 0, 0, 0, 0, 0, 1, 0])), ((w0.set 48 (.inl [0, 0, 0, 0, 0, 0, 1, 0])).set 66 (.inl [0, 0, 0, 0, 0, 0, 1, 0])), by
    refine Ef.in (md := mX5_change) (L := [some (.ref 0), some (.int a1), some (.int 1)]) rfl (Nat.le_of_ble_eq_true rfl) rfl ?_
    refine E_iload_n rfl rfl ?_
    refine E_callS (v := some (.int 1)) (As := [.int 1]) (r0 := []) (cs2 := w0) rfl rfl rfl (Nat.le_of_ble_eq_true rfl) rfl c239_X5_isOneOfTwo (by decide) rfl ?_
    refine E_if (t := 16) (b := true) rfl rfl (by decide) ?_
    refine E_iload_n rfl rfl ?_
    have e5 : Ev ab_Z0 1 48 [.int a1] w0 (some (.int 0), w0) := by
      refine Ef.in (md := mX4_isAmount) (L := [some (.int a1)]) rfl (Nat.le_of_ble_eq_true rfl) rfl ?_
      refine E_iload_n rfl rfl ?_
      refine E_if (t := 14) (b := false) rfl rfl ((cn_lt (rfl : (a1).toInt = (a1).toInt) (by decide : (0 : Int32).toInt = 0)).trans (decide_eq_false (by omega))) ?_
      refine E_iload_n rfl rfl ?_
      refine E_bipush (x := 100) rfl (by decide) ?_
      refine E_ic (t := 14) (b := true) rfl rfl ((cn_ge (rfl : (a1).toInt = (a1).toInt) (by decide : (100 : Int32).toInt = 100)).trans (decide_eq_true (by omega))) ?_
      refine E_iconst (x := 0) rfl (by decide) ?_
      exact E_iret rfl rfl
    refine E_callS (v := some (.int 0)) (As := [.int a1]) (r0 := []) (cs2 := w0) rfl rfl rfl (Nat.le_of_ble_eq_true rfl) rfl e5 (by decide) rfl ?_
    refine E_if (t := 33) (b := false) rfl rfl (by decide) ?_
    refine E_aload_n rfl rfl ?_
    refine E_bipush (x := 6) rfl (by decide) ?_
    refine E_callV (v := some (.int (-6))) (As := [.ref 0, .int 6]) (r0 := []) (cs2 := (w0.set 48 (.inl [0, 0, 0, 0, 0, 0, 1, 0]))) rfl rfl rfl (Nat.le_of_ble_eq_true rfl) rfl rfl c7_X5_refuse (by decide) (by simp only [List.length_set]) ?_
    refine E_bipush (x := 10) rfl (by decide) ?_
    refine E_isub (z := (-16)) rfl (by decide) ?_
    exact E_iret rfl rfl, by
    refine Ef.in (md := mX6_change) (L := [some (.ref 65), some (.int a1), some (.int 1)]) rfl (Nat.le_of_ble_eq_true rfl) rfl ?_
    refine E_iload_n rfl rfl ?_
    refine E_if (t := 9) (b := false) rfl rfl (by decide) ?_
    refine E_iload_n rfl rfl ?_
    refine E_iconst (x := 1) rfl (by decide) ?_
    refine E_ic (t := 16) (b := true) rfl rfl (by decide) ?_
    refine E_aload_n rfl rfl ?_
    refine E_iload_n rfl rfl ?_
    refine E_iconst (x := 0) rfl (by decide) ?_
    refine E_bipush (x := 99) rfl (by decide) ?_
    have e10 : Ev ab_Z0 1 134 [.ref 65, .int a1, .int 0, .int 99] (w0.set 48 (.inl [0, 0, 0, 0, 0, 0, 1, 0])) (some (.int 0), (w0.set 48 (.inl [0, 0, 0, 0, 0, 0, 1, 0]))) := by
      refine Ef.in (md := mX6_isFrom) (L := [some (.ref 65), some (.int a1), some (.int 0), some (.int 99)]) rfl (Nat.le_of_ble_eq_true rfl) rfl ?_
      refine E_iload_n rfl rfl ?_
      refine E_iload_n rfl rfl ?_
      refine E_ic (t := 14) (b := false) rfl rfl ((cn_lt (rfl : (a1).toInt = (a1).toInt) (by decide : (0 : Int32).toInt = 0)).trans (decide_eq_false (by omega))) ?_
      refine E_iload_n rfl rfl ?_
      refine E_iload_n rfl rfl ?_
      refine E_ic (t := 14) (b := true) rfl rfl ((cn_gt (rfl : (a1).toInt = (a1).toInt) (by decide : (99 : Int32).toInt = 99)).trans (decide_eq_true (by omega))) ?_
      refine E_iconst (x := 0) rfl (by decide) ?_
      exact E_iret rfl rfl
    refine E_callV (v := some (.int 0)) (As := [.ref 65, .int a1, .int 0, .int 99]) (r0 := []) (cs2 := (w0.set 48 (.inl [0, 0, 0, 0, 0, 0, 1, 0]))) rfl rfl rfl (Nat.le_of_ble_eq_true rfl) rfl rfl e10 (by decide) rfl ?_
    refine E_if (t := 34) (b := false) rfl rfl (by decide) ?_
    refine E_aload_n rfl rfl ?_
    refine E_bipush (x := (-6)) rfl (by decide) ?_
    refine E_callV (v := some (.int (-16))) (As := [.ref 65, .int (-6)]) (r0 := []) (cs2 := ((w0.set 48 (.inl [0, 0, 0, 0, 0, 0, 1, 0])).set 66 (.inl [0, 0, 0, 0, 0, 0, 1, 0]))) rfl rfl rfl (Nat.le_of_ble_eq_true rfl) rfl rfl c231_X6_noTen (by decide) (by simp only [List.length_set]) ?_
    exact E_iret rfl rfl, (by simp only [List.length_set]; rfl), (by simp only [List.length_set]; rfl), ((ab_szs rfl).trans ((ab_szs rfl).trans rfl)), fun _ => rfl⟩
theorem f_change_10 (a1 a2 : Int32) (ha2l : (2 : Int) ≤ a2.toInt) : p1_P 5 93 4 173 [.ref 0, .int a1, .int a2] [.ref 65, .int a1, .int a2] :=
  ⟨(-15), (w0.set 48 (.inl [0, 0, 0, 0, 0, 1, 0, 0])), ((w0.set 48 (.inl [0, 0, 0, 0, 0, 1, 0, 0])).set 66 (.inl [0, 0, 0, 0, 0, 1, 0, 0])), by
    refine Ef.in (md := mX5_change) (L := [some (.ref 0), some (.int a1), some (.int a2)]) rfl (Nat.le_of_ble_eq_true rfl) rfl ?_
    refine E_iload_n rfl rfl ?_
    have e2 : Ev ab_Z0 1 116 [.int a2] w0 (some (.int 0), w0) := by
      refine Ef.in (md := mX5_isOneOfTwo) (L := [some (.int a2)]) rfl (Nat.le_of_ble_eq_true rfl) rfl ?_
      refine E_iload_n rfl rfl ?_
      refine E_if (t := 9) (b := false) rfl rfl ((cn_eq (rfl : (a2).toInt = (a2).toInt) (by decide : (0 : Int32).toInt = 0)).trans (decide_eq_false (by omega))) ?_
      refine E_iload_n rfl rfl ?_
      refine E_iconst (x := 1) rfl (by decide) ?_
      refine E_ic (t := 13) (b := true) rfl rfl ((cn_ne (rfl : (a2).toInt = (a2).toInt) (by decide : (1 : Int32).toInt = 1)).trans (decide_eq_true (by omega))) ?_
      refine E_iconst (x := 0) rfl (by decide) ?_
      exact E_iret rfl rfl
    refine E_callS (v := some (.int 0)) (As := [.int a2]) (r0 := []) (cs2 := w0) rfl rfl rfl (Nat.le_of_ble_eq_true rfl) rfl e2 (by decide) rfl ?_
    refine E_if (t := 16) (b := false) rfl rfl (by decide) ?_
    refine E_aload_n rfl rfl ?_
    refine E_iconst (x := 5) rfl (by decide) ?_
    refine E_callV (v := some (.int (-5))) (As := [.ref 0, .int 5]) (r0 := []) (cs2 := (w0.set 48 (.inl [0, 0, 0, 0, 0, 1, 0, 0]))) rfl rfl rfl (Nat.le_of_ble_eq_true rfl) rfl rfl c200_X5_refuse (by decide) (by simp only [List.length_set]) ?_
    refine E_bipush (x := 10) rfl (by decide) ?_
    refine E_isub (z := (-15)) rfl (by decide) ?_
    exact E_iret rfl rfl, by
    refine Ef.in (md := mX6_change) (L := [some (.ref 65), some (.int a1), some (.int a2)]) rfl (Nat.le_of_ble_eq_true rfl) rfl ?_
    refine E_iload_n rfl rfl ?_
    refine E_if (t := 9) (b := false) rfl rfl ((cn_lt (rfl : (a2).toInt = (a2).toInt) (by decide : (0 : Int32).toInt = 0)).trans (decide_eq_false (by omega))) ?_
    refine E_iload_n rfl rfl ?_
    refine E_iconst (x := 1) rfl (by decide) ?_
    refine E_ic (t := 16) (b := false) rfl rfl ((cn_le (rfl : (a2).toInt = (a2).toInt) (by decide : (1 : Int32).toInt = 1)).trans (decide_eq_false (by omega))) ?_
    refine E_aload_n rfl rfl ?_
    refine E_bipush (x := (-5)) rfl (by decide) ?_
    refine E_callV (v := some (.int (-15))) (As := [.ref 65, .int (-5)]) (r0 := []) (cs2 := ((w0.set 48 (.inl [0, 0, 0, 0, 0, 1, 0, 0])).set 66 (.inl [0, 0, 0, 0, 0, 1, 0, 0]))) rfl rfl rfl (Nat.le_of_ble_eq_true rfl) rfl rfl c229_X6_noTen (by decide) (by simp only [List.length_set]) ?_
    exact E_iret rfl rfl, (by simp only [List.length_set]; rfl), (by simp only [List.length_set]; rfl), ((ab_szs rfl).trans ((ab_szs rfl).trans rfl)), fun _ => rfl⟩
theorem f_change (a1 a2 : Int32) : p1_P 5 93 4 173 [.ref 0, .int a1, .int a2] [.ref 65, .int a1, .int a2] := by
  rcases ab_ltge a2.toInt (0) with h | h
  · exact f_change_1 a1 a2 (by omega)
  rcases ab_ltge a2.toInt (1) with h | h
  · obtain rfl : a2 = 0 := Int32.toInt_inj.mp (by rw [show ((0 : Int32).toInt = 0) by decide]; omega)
    rcases ab_ltge a1.toInt (0) with h | h
    · exact f_change_2 a1 (by omega)
    rcases ab_ltge a1.toInt (100) with h | h
    · rcases ab_ltge a1.toInt (1) with h | h
      · obtain rfl : a1 = 0 := Int32.toInt_inj.mp (by rw [show ((0 : Int32).toInt = 0) by decide]; omega)
        exact f_change_3
      exact f_change_4 a1 (by omega) (by omega)
    exact f_change_5 a1 (by omega)
  rcases ab_ltge a2.toInt (2) with h | h
  · obtain rfl : a2 = 1 := Int32.toInt_inj.mp (by rw [show ((1 : Int32).toInt = 1) by decide]; omega)
    rcases ab_ltge a1.toInt (0) with h | h
    · exact f_change_6 a1 (by omega)
    rcases ab_ltge a1.toInt (100) with h | h
    · rcases ab_ltge a1.toInt (1) with h | h
      · obtain rfl : a1 = 0 := Int32.toInt_inj.mp (by rw [show ((0 : Int32).toInt = 0) by decide]; omega)
        exact f_change_7
      exact f_change_8 a1 (by omega) (by omega)
    exact f_change_9 a1 (by omega)
  exact f_change_10 a1 a2 (by omega)
