/-! Square adds a piece, a person; by program (wip/tools/wr.py) -/
theorem sq_addPiece {cs : List ab_C} {b : Nat} {s : ab_q} {k a c : Nat} (h : qAt cs b s) (I : qI s) (hr : qN s < 9) : ∃ cs2, Ev ab_Z0 2 56 [.ref b, .int (nI k), .int (nI a), .int (nI c)] cs (some (.int (nI (qN s))), cs2) ∧ qAt cs2 b (qAddP s k a c) ∧ ab_Up b (b + 10) cs cs2 := by
  have hh := h
  obtain ⟨h0, h1, h2, h3, h4, h5, h6, h7, h8, h9⟩ := h
  obtain ⟨⟨i0, i1, i2, i3⟩, ⟨i4, i5, i6, i7, i8⟩, ⟨i9, i10⟩, I1, I2, I3, I4⟩ := id I
  refine ⟨(((((cs.set (b + 1) (.inl (((qK s).set (qN s) k).map nI))).set (b + 2) (.inl (((qA s).set (qN s) a).map nI))).set (b + 3) (.inl (((qB s).set (qN s) c).map nI))).set (b + 4) (.inl (((qP s).set (qN s) 99).map nI))).set b (.inr (.inr (.inr (4, [.ref (b + 1), .ref (b + 2), .ref (b + 3), .ref (b + 4), .ref (b + 5), .ref (b + 6), .ref (b + 7), .ref (b + 8), .ref (b + 9), .int (nI ((qN s) + 1)), .int (nI (qM s)), .int (qR s), .int (qY s), .int (qD s), .int (qS s)]))))), ?_, ⟨(ab_geq (ab_gne (ab_gne (ab_gne (ab_gne h0 (by omega)) (by omega)) (by omega)) (by omega))), (ab_gne (ab_gne (ab_gne (ab_gne (ab_geq h1) (by omega)) (by omega)) (by omega)) (by omega)), (ab_gne (ab_gne (ab_gne (ab_geq (ab_gne h2 (by omega))) (by omega)) (by omega)) (by omega)), (ab_gne (ab_gne (ab_geq (ab_gne (ab_gne h3 (by omega)) (by omega))) (by omega)) (by omega)), (ab_gne (ab_geq (ab_gne (ab_gne (ab_gne h4 (by omega)) (by omega)) (by omega))) (by omega)), (ab_gne (ab_gne (ab_gne (ab_gne (ab_gne h5 (by omega)) (by omega)) (by omega)) (by omega)) (by omega)), (ab_gne (ab_gne (ab_gne (ab_gne (ab_gne h6 (by omega)) (by omega)) (by omega)) (by omega)) (by omega)), (ab_gne (ab_gne (ab_gne (ab_gne (ab_gne h7 (by omega)) (by omega)) (by omega)) (by omega)) (by omega)), (ab_gne (ab_gne (ab_gne (ab_gne (ab_gne h8 (by omega)) (by omega)) (by omega)) (by omega)) (by omega)), (ab_gne (ab_gne (ab_gne (ab_gne (ab_gne h9 (by omega)) (by omega)) (by omega)) (by omega)) (by omega))⟩, (ab_Up.put (ab_Up.put (ab_Up.put (ab_Up.put (ab_Up.put ab_Up.rfl ⟨by omega, by omega⟩ h1 (by first | rfl | (show List.length _ = List.length _; simp))) ⟨by omega, by omega⟩ (ab_gne h2 (by omega)) (by first | rfl | (show List.length _ = List.length _; simp))) ⟨by omega, by omega⟩ (ab_gne (ab_gne h3 (by omega)) (by omega)) (by first | rfl | (show List.length _ = List.length _; simp))) ⟨by omega, by omega⟩ (ab_gne (ab_gne (ab_gne h4 (by omega)) (by omega)) (by omega)) (by first | rfl | (show List.length _ = List.length _; simp))) ⟨by omega, by omega⟩ (ab_gne (ab_gne (ab_gne (ab_gne h0 (by omega)) (by omega)) (by omega)) (by omega)) (by first | rfl | (show List.length _ = List.length _; simp)))⟩
  refine Ef.in (md := mX4_addPiece) (L := [some (.ref b), some (.int (nI k)), some (.int (nI a)), some (.int (nI c)), none]) rfl (Nat.le_of_ble_eq_true rfl) rfl ?_
  refine E_aload_n rfl rfl ?_
  refine E_callV (v := some (.int (nI 1))) (As := [.ref b]) (r0 := []) (cs2 := cs) rfl rfl rfl (Nat.le_of_ble_eq_true rfl) rfl (ab_rvOf h0 rfl) (by have := st_X4_hasRoomForPiece hh I; rw [if_pos hr] at this; exact this) (by decide) rfl ?_
  refine E_if (t := 9) (b := true) rfl rfl (by decide) ?_
  refine E_aload_n rfl rfl ?_
  refine E_getfield (v := .int (nI (qN s))) rfl h0 rfl (by decide) rfl ?_
  refine E_istore (L2 := [some (.ref b), some (.int (nI k)), some (.int (nI a)), some (.int (nI c)), some (.int (nI (qN s)))]) rfl rfl ?_
  refine E_aload_n rfl rfl ?_
  refine E_getfield (v := .ref (b + 1)) rfl h0 rfl (by decide) rfl ?_
  refine E_iload rfl rfl ?_
  refine E_iload_n rfl rfl ?_
  refine E_iasN (cs2 := (cs.set (b + 1) (.inl (((qK s).set (qN s) k).map nI)))) rfl h1 (by omega) (by omega) rfl ?_
  refine E_aload_n rfl rfl ?_
  refine E_getfield (v := .ref (b + 2)) rfl (ab_gne h0 (by omega)) rfl (by decide) rfl ?_
  refine E_iload rfl rfl ?_
  refine E_iload_n rfl rfl ?_
  refine E_iasN (cs2 := ((cs.set (b + 1) (.inl (((qK s).set (qN s) k).map nI))).set (b + 2) (.inl (((qA s).set (qN s) a).map nI)))) rfl (ab_gne h2 (by omega)) (by omega) (by omega) rfl ?_
  refine E_aload_n rfl rfl ?_
  refine E_getfield (v := .ref (b + 3)) rfl (ab_gne (ab_gne h0 (by omega)) (by omega)) rfl (by decide) rfl ?_
  refine E_iload rfl rfl ?_
  refine E_iload_n rfl rfl ?_
  refine E_iasN (cs2 := (((cs.set (b + 1) (.inl (((qK s).set (qN s) k).map nI))).set (b + 2) (.inl (((qA s).set (qN s) a).map nI))).set (b + 3) (.inl (((qB s).set (qN s) c).map nI)))) rfl (ab_gne (ab_gne h3 (by omega)) (by omega)) (by omega) (by omega) rfl ?_
  refine E_aload_n rfl rfl ?_
  refine E_getfield (v := .ref (b + 4)) rfl (ab_gne (ab_gne (ab_gne h0 (by omega)) (by omega)) (by omega)) rfl (by decide) rfl ?_
  refine E_iload rfl rfl ?_
  refine E_bipush (x := nI 99) rfl (by decide) ?_
  refine E_iasN (cs2 := ((((cs.set (b + 1) (.inl (((qK s).set (qN s) k).map nI))).set (b + 2) (.inl (((qA s).set (qN s) a).map nI))).set (b + 3) (.inl (((qB s).set (qN s) c).map nI))).set (b + 4) (.inl (((qP s).set (qN s) 99).map nI)))) rfl (ab_gne (ab_gne (ab_gne h4 (by omega)) (by omega)) (by omega)) (by omega) (by omega) rfl ?_
  refine E_aload_n rfl rfl ?_
  refine E_dup rfl rfl ?_
  refine E_getfield (v := .int (nI (qN s))) rfl (ab_gne (ab_gne (ab_gne (ab_gne h0 (by omega)) (by omega)) (by omega)) (by omega)) rfl (by decide) rfl ?_
  refine E_iconst (x := nI 1) rfl (by decide) ?_
  refine E_iadd (z := nI ((qN s) + 1)) rfl (nI_add _ _) ?_
  refine E_putfield (cs2 := (((((cs.set (b + 1) (.inl (((qK s).set (qN s) k).map nI))).set (b + 2) (.inl (((qA s).set (qN s) a).map nI))).set (b + 3) (.inl (((qB s).set (qN s) c).map nI))).set (b + 4) (.inl (((qP s).set (qN s) 99).map nI))).set b (.inr (.inr (.inr (4, [.ref (b + 1), .ref (b + 2), .ref (b + 3), .ref (b + 4), .ref (b + 5), .ref (b + 6), .ref (b + 7), .ref (b + 8), .ref (b + 9), .int (nI ((qN s) + 1)), .int (nI (qM s)), .int (qR s), .int (qY s), .int (qD s), .int (qS s)])))))) rfl (ab_gne (ab_gne (ab_gne (ab_gne h0 (by omega)) (by omega)) (by omega)) (by omega)) rfl (by decide) (Nat.le_of_ble_eq_true rfl) rfl rfl rfl rfl ?_
  refine E_iload rfl rfl ?_
  exact E_iret rfl rfl
theorem sq_addPerson {cs : List ab_C} {b : Nat} {s : ab_q} {u l w : Nat} (h : qAt cs b s) (I : qI s) (hr : qM s < 6) : ∃ cs2, Ev ab_Z0 2 57 [.ref b, .int (nI u), .int (nI l), .int (nI w)] cs (some (.int (nI (qM s))), cs2) ∧ qAt cs2 b (qAddM s u l w) ∧ ab_Up b (b + 10) cs cs2 := by
  have hh := h
  obtain ⟨h0, h1, h2, h3, h4, h5, h6, h7, h8, h9⟩ := h
  obtain ⟨⟨i0, i1, i2, i3⟩, ⟨i4, i5, i6, i7, i8⟩, ⟨i9, i10⟩, I1, I2, I3, I4⟩ := id I
  refine ⟨(((((cs.set (b + 5) (.inl (((qU s).set (qM s) u).map nI))).set (b + 6) (.inl (((qL s).set (qM s) l).map nI))).set (b + 7) (.inl (((qW s).set (qM s) w).map nI))).set (b + 8) (.inl ((qG s).set (qM s) (nI 0)))).set b (.inr (.inr (.inr (4, [.ref (b + 1), .ref (b + 2), .ref (b + 3), .ref (b + 4), .ref (b + 5), .ref (b + 6), .ref (b + 7), .ref (b + 8), .ref (b + 9), .int (nI (qN s)), .int (nI ((qM s) + 1)), .int (qR s), .int (qY s), .int (qD s), .int (qS s)]))))), ?_, ⟨(ab_geq (ab_gne (ab_gne (ab_gne (ab_gne h0 (by omega)) (by omega)) (by omega)) (by omega))), (ab_gne (ab_gne (ab_gne (ab_gne (ab_gne h1 (by omega)) (by omega)) (by omega)) (by omega)) (by omega)), (ab_gne (ab_gne (ab_gne (ab_gne (ab_gne h2 (by omega)) (by omega)) (by omega)) (by omega)) (by omega)), (ab_gne (ab_gne (ab_gne (ab_gne (ab_gne h3 (by omega)) (by omega)) (by omega)) (by omega)) (by omega)), (ab_gne (ab_gne (ab_gne (ab_gne (ab_gne h4 (by omega)) (by omega)) (by omega)) (by omega)) (by omega)), (ab_gne (ab_gne (ab_gne (ab_gne (ab_geq h5) (by omega)) (by omega)) (by omega)) (by omega)), (ab_gne (ab_gne (ab_gne (ab_geq (ab_gne h6 (by omega))) (by omega)) (by omega)) (by omega)), (ab_gne (ab_gne (ab_geq (ab_gne (ab_gne h7 (by omega)) (by omega))) (by omega)) (by omega)), (ab_gne (ab_geq (ab_gne (ab_gne (ab_gne h8 (by omega)) (by omega)) (by omega))) (by omega)), (ab_gne (ab_gne (ab_gne (ab_gne (ab_gne h9 (by omega)) (by omega)) (by omega)) (by omega)) (by omega))⟩, (ab_Up.put (ab_Up.put (ab_Up.put (ab_Up.put (ab_Up.put ab_Up.rfl ⟨by omega, by omega⟩ h5 (by first | rfl | (show List.length _ = List.length _; simp))) ⟨by omega, by omega⟩ (ab_gne h6 (by omega)) (by first | rfl | (show List.length _ = List.length _; simp))) ⟨by omega, by omega⟩ (ab_gne (ab_gne h7 (by omega)) (by omega)) (by first | rfl | (show List.length _ = List.length _; simp))) ⟨by omega, by omega⟩ (ab_gne (ab_gne (ab_gne h8 (by omega)) (by omega)) (by omega)) (by first | rfl | (show List.length _ = List.length _; simp))) ⟨by omega, by omega⟩ (ab_gne (ab_gne (ab_gne (ab_gne h0 (by omega)) (by omega)) (by omega)) (by omega)) (by first | rfl | (show List.length _ = List.length _; simp)))⟩
  refine Ef.in (md := mX4_addPerson) (L := [some (.ref b), some (.int (nI u)), some (.int (nI l)), some (.int (nI w)), none]) rfl (Nat.le_of_ble_eq_true rfl) rfl ?_
  refine E_aload_n rfl rfl ?_
  refine E_callV (v := some (.int (nI 1))) (As := [.ref b]) (r0 := []) (cs2 := cs) rfl rfl rfl (Nat.le_of_ble_eq_true rfl) rfl (ab_rvOf h0 rfl) (by have := st_X4_hasRoomForPerson hh I; rw [if_pos hr] at this; exact this) (by decide) rfl ?_
  refine E_if (t := 9) (b := true) rfl rfl (by decide) ?_
  refine E_aload_n rfl rfl ?_
  refine E_getfield (v := .int (nI (qM s))) rfl h0 rfl (by decide) rfl ?_
  refine E_istore (L2 := [some (.ref b), some (.int (nI u)), some (.int (nI l)), some (.int (nI w)), some (.int (nI (qM s)))]) rfl rfl ?_
  refine E_aload_n rfl rfl ?_
  refine E_getfield (v := .ref (b + 5)) rfl h0 rfl (by decide) rfl ?_
  refine E_iload rfl rfl ?_
  refine E_iload_n rfl rfl ?_
  refine E_iasN (cs2 := (cs.set (b + 5) (.inl (((qU s).set (qM s) u).map nI)))) rfl h5 (by omega) (by omega) rfl ?_
  refine E_aload_n rfl rfl ?_
  refine E_getfield (v := .ref (b + 6)) rfl (ab_gne h0 (by omega)) rfl (by decide) rfl ?_
  refine E_iload rfl rfl ?_
  refine E_iload_n rfl rfl ?_
  refine E_iasN (cs2 := ((cs.set (b + 5) (.inl (((qU s).set (qM s) u).map nI))).set (b + 6) (.inl (((qL s).set (qM s) l).map nI)))) rfl (ab_gne h6 (by omega)) (by omega) (by omega) rfl ?_
  refine E_aload_n rfl rfl ?_
  refine E_getfield (v := .ref (b + 7)) rfl (ab_gne (ab_gne h0 (by omega)) (by omega)) rfl (by decide) rfl ?_
  refine E_iload rfl rfl ?_
  refine E_iload_n rfl rfl ?_
  refine E_iasN (cs2 := (((cs.set (b + 5) (.inl (((qU s).set (qM s) u).map nI))).set (b + 6) (.inl (((qL s).set (qM s) l).map nI))).set (b + 7) (.inl (((qW s).set (qM s) w).map nI)))) rfl (ab_gne (ab_gne h7 (by omega)) (by omega)) (by omega) (by omega) rfl ?_
  refine E_aload_n rfl rfl ?_
  refine E_getfield (v := .ref (b + 8)) rfl (ab_gne (ab_gne (ab_gne h0 (by omega)) (by omega)) (by omega)) rfl (by decide) rfl ?_
  refine E_iload rfl rfl ?_
  refine E_iconst (x := nI 0) rfl (by decide) ?_
  refine E_iasI (cs2 := ((((cs.set (b + 5) (.inl (((qU s).set (qM s) u).map nI))).set (b + 6) (.inl (((qL s).set (qM s) l).map nI))).set (b + 7) (.inl (((qW s).set (qM s) w).map nI))).set (b + 8) (.inl ((qG s).set (qM s) (nI 0))))) rfl (ab_gne (ab_gne (ab_gne h8 (by omega)) (by omega)) (by omega)) (by omega) (by omega) rfl ?_
  refine E_aload_n rfl rfl ?_
  refine E_dup rfl rfl ?_
  refine E_getfield (v := .int (nI (qM s))) rfl (ab_gne (ab_gne (ab_gne (ab_gne h0 (by omega)) (by omega)) (by omega)) (by omega)) rfl (by decide) rfl ?_
  refine E_iconst (x := nI 1) rfl (by decide) ?_
  refine E_iadd (z := nI ((qM s) + 1)) rfl (nI_add _ _) ?_
  refine E_putfield (cs2 := (((((cs.set (b + 5) (.inl (((qU s).set (qM s) u).map nI))).set (b + 6) (.inl (((qL s).set (qM s) l).map nI))).set (b + 7) (.inl (((qW s).set (qM s) w).map nI))).set (b + 8) (.inl ((qG s).set (qM s) (nI 0)))).set b (.inr (.inr (.inr (4, [.ref (b + 1), .ref (b + 2), .ref (b + 3), .ref (b + 4), .ref (b + 5), .ref (b + 6), .ref (b + 7), .ref (b + 8), .ref (b + 9), .int (nI (qN s)), .int (nI ((qM s) + 1)), .int (qR s), .int (qY s), .int (qD s), .int (qS s)])))))) rfl (ab_gne (ab_gne (ab_gne (ab_gne h0 (by omega)) (by omega)) (by omega)) (by omega)) rfl (by decide) (Nat.le_of_ble_eq_true rfl) rfl rfl rfl rfl ?_
  refine E_iload rfl rfl ?_
  exact E_iret rfl rfl
