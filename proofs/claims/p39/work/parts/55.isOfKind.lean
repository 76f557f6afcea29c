/-! isOfKind; by program (wip/tools/mk55.py) -/
set_option maxHeartbeats 4000000 in
theorem sq_isOfKind {cs : List ab_C} {b : Nat} {s : ab_q} {x w : Nat} (h : qAt cs b s) (I : qI s) (hN : cs[1000000 + 0]? = none) (hx : x < qN s) (hw : w ≤ 6) : Ev ab_Z0 2 54 [.ref b, .int (nI x), .int (nI w)] cs (some (.int (nI (qOf ((qK s).getD x 0) w))), cs) := by
  obtain ⟨h0, h1, h2, h3, h4, h5, h6, h7, h8, h9⟩ := h
  obtain ⟨⟨i0, i1, i2, i3⟩, ⟨i4, i5, i6, i7, i8⟩, ⟨i9, i10⟩, I1, I2, I3, I4⟩ := I
  have := I1 x hx
  obtain ⟨K, e⟩ : ∃ K, (qK s).getD x 0 = K := ⟨_, rfl⟩
  rw [e]
  rw [e] at this
  rcases (by omega : K = 0 ∨ K = 1 ∨ K = 2 ∨ K = 3 ∨ K = 4 ∨ K = 5 ∨ K = 6) with rfl | rfl | rfl | rfl | rfl | rfl | rfl
  · by_cases f1 : w = 0
    · subst f1
      rw [show qOf 0 0 = 1 from (by first | exact if_pos (by omega) | exact if_neg (by omega))]
      refine Ef.in (md := mX4_isOfKind) (L := [some (.ref b), some (.int (nI x)), some (.int (nI 0)), none, none]) rfl (Nat.le_of_ble_eq_true rfl) rfl ?_
      refine E_aload_n at_X4_isOfKind_0 rfl ?_
      refine E_getfield (v := .ref (b + 1)) at_X4_isOfKind_1 h0 rfl (by decide) rfl ?_
      refine E_iload_n at_X4_isOfKind_4 rfl ?_
      refine E_ialN (l := qK s) (v := 0) at_X4_isOfKind_5 h1 (by omega) (by omega) e ?_
      refine E_istore_n (L2 := [some (.ref b), some (.int (nI x)), some (.int (nI 0)), some (.int (nI 0)), none]) at_X4_isOfKind_6 rfl ?_
      refine E_iconst (x := nI 0) at_X4_isOfKind_7 (by decide) ?_
      refine E_istore (L2 := [some (.ref b), some (.int (nI x)), some (.int (nI 0)), some (.int (nI 0)), some (.int (nI 0))]) at_X4_isOfKind_8 rfl ?_
      refine E_iload at_X4_isOfKind_10 rfl ?_
      refine E_bipush (x := nI 7) at_X4_isOfKind_12 (by decide) ?_
      refine E_ic (t := 41) (b := false) at_X4_isOfKind_14 rfl (by decide) ?_
      refine E_iload_n at_X4_isOfKind_17 rfl ?_
      refine E_iload_n at_X4_isOfKind_18 rfl ?_
      refine E_ic (t := 41) (b := true) at_X4_isOfKind_19 rfl (by decide) ?_
      refine E_iload_n at_X4_isOfKind_41 rfl ?_
      refine E_iload_n at_X4_isOfKind_42 rfl ?_
      refine E_ic (t := 50) (b := false) at_X4_isOfKind_43 rfl (by decide) ?_
      refine E_iconst (x := nI 1) at_X4_isOfKind_46 (by decide) ?_
      refine E_goto (t := 51) at_X4_isOfKind_47 rfl ?_
      exact E_iret at_X4_isOfKind_51 rfl
    · rw [show qOf 0 w = 0 from (by first | exact if_pos (by omega) | exact if_neg (by omega))]
      refine Ef.in (md := mX4_isOfKind) (L := [some (.ref b), some (.int (nI x)), some (.int (nI w)), none, none]) rfl (Nat.le_of_ble_eq_true rfl) rfl ?_
      refine E_aload_n at_X4_isOfKind_0 rfl ?_
      refine E_getfield (v := .ref (b + 1)) at_X4_isOfKind_1 h0 rfl (by decide) rfl ?_
      refine E_iload_n at_X4_isOfKind_4 rfl ?_
      refine E_ialN (l := qK s) (v := 0) at_X4_isOfKind_5 h1 (by omega) (by omega) e ?_
      refine E_istore_n (L2 := [some (.ref b), some (.int (nI x)), some (.int (nI w)), some (.int (nI 0)), none]) at_X4_isOfKind_6 rfl ?_
      refine E_iconst (x := nI 0) at_X4_isOfKind_7 (by decide) ?_
      refine E_istore (L2 := [some (.ref b), some (.int (nI x)), some (.int (nI w)), some (.int (nI 0)), some (.int (nI 0))]) at_X4_isOfKind_8 rfl ?_
      refine E_iload at_X4_isOfKind_10 rfl ?_
      refine E_bipush (x := nI 7) at_X4_isOfKind_12 (by decide) ?_
      refine E_ic (t := 41) (b := false) at_X4_isOfKind_14 rfl (by decide) ?_
      refine E_iload_n at_X4_isOfKind_17 rfl ?_
      refine E_iload_n at_X4_isOfKind_18 rfl ?_
      refine E_ic (t := 41) (b := false) at_X4_isOfKind_19 rfl ((cn_eq (nI_toInt (by omega)) (nI_toInt (by omega))).trans (decide_eq_false (by omega))) ?_
      refine E_iload_n at_X4_isOfKind_22 rfl ?_
      have e1 : Ev ab_Z0 1 46 [.int (nI 0)] cs (some (.int (nI 1)), cs) := by
        refine Ef.in (md := mX4_isKind) (L := [some (.int (nI 0))]) rfl (Nat.le_of_ble_eq_true rfl) rfl ?_
        refine E_iload_n at_X4_isKind_0 rfl ?_
        refine E_if (t := 14) (b := false) at_X4_isKind_1 rfl (by decide) ?_
        refine E_iload_n at_X4_isKind_4 rfl ?_
        refine E_bipush (x := nI 7) at_X4_isKind_5 (by decide) ?_
        refine E_ic (t := 14) (b := false) at_X4_isKind_7 rfl (by decide) ?_
        refine E_iconst (x := nI 1) at_X4_isKind_10 (by decide) ?_
        refine E_goto (t := 15) at_X4_isKind_11 rfl ?_
        exact E_iret at_X4_isKind_15 rfl
      refine E_callS (v := some (.int (nI 1))) (As := [.int (nI 0)]) (r0 := []) (cs2 := cs) at_X4_isOfKind_23 rfl rfl (Nat.le_of_ble_eq_true rfl) rfl e1 (by decide) rfl ?_
      refine E_if (t := 41) (b := false) at_X4_isOfKind_26 rfl (by decide) ?_
      refine E_getstatic (t := 1000000) at_X4_isOfKind_29 rfl ?_
      refine E_iload_n at_X4_isOfKind_32 rfl ?_
      refine E_tload (x := (-1)) (j := 0) (t := 0) at_X4_isOfKind_33 hN rfl (by decide) rfl (by decide) (by decide) rfl ?_
      refine E_istore_n (L2 := [some (.ref b), some (.int (nI x)), some (.int (nI w)), some (.int (-1)), some (.int (nI 0))]) at_X4_isOfKind_34 rfl ?_
      refine E_iinc (y := nI 1) (L2 := [some (.ref b), some (.int (nI x)), some (.int (nI w)), some (.int (-1)), some (.int (nI 1))]) at_X4_isOfKind_35 rfl (by decide) rfl ?_
      refine E_goto (t := 10) at_X4_isOfKind_38 rfl ?_
      refine E_iload at_X4_isOfKind_10 rfl ?_
      refine E_bipush (x := nI 7) at_X4_isOfKind_12 (by decide) ?_
      refine E_ic (t := 41) (b := false) at_X4_isOfKind_14 rfl (by decide) ?_
      refine E_iload_n at_X4_isOfKind_17 rfl ?_
      refine E_iload_n at_X4_isOfKind_18 rfl ?_
      refine E_ic (t := 41) (b := false) at_X4_isOfKind_19 rfl ((cn_eq (by decide : (-1 : Int32).toInt = -1) (nI_toInt (by omega))).trans (decide_eq_false (by omega))) ?_
      refine E_iload_n at_X4_isOfKind_22 rfl ?_
      have e2 : Ev ab_Z0 1 46 [.int (-1)] cs (some (.int (nI 0)), cs) := by
        refine Ef.in (md := mX4_isKind) (L := [some (.int (-1))]) rfl (Nat.le_of_ble_eq_true rfl) rfl ?_
        refine E_iload_n at_X4_isKind_0 rfl ?_
        refine E_if (t := 14) (b := true) at_X4_isKind_1 rfl (by decide) ?_
        refine E_iconst (x := nI 0) at_X4_isKind_14 (by decide) ?_
        exact E_iret at_X4_isKind_15 rfl
      refine E_callS (v := some (.int (nI 0))) (As := [.int (-1)]) (r0 := []) (cs2 := cs) at_X4_isOfKind_23 rfl rfl (Nat.le_of_ble_eq_true rfl) rfl e2 (by decide) rfl ?_
      refine E_if (t := 41) (b := true) at_X4_isOfKind_26 rfl (by decide) ?_
      refine E_iload_n at_X4_isOfKind_41 rfl ?_
      refine E_iload_n at_X4_isOfKind_42 rfl ?_
      refine E_ic (t := 50) (b := true) at_X4_isOfKind_43 rfl ((cn_ne (by decide : (-1 : Int32).toInt = -1) (nI_toInt (by omega))).trans (decide_eq_true (by omega))) ?_
      refine E_iconst (x := nI 0) at_X4_isOfKind_50 (by decide) ?_
      exact E_iret at_X4_isOfKind_51 rfl
  · by_cases f1 : w = 1
    · subst f1
      rw [show qOf 1 1 = 1 from (by first | exact if_pos (by omega) | exact if_neg (by omega))]
      refine Ef.in (md := mX4_isOfKind) (L := [some (.ref b), some (.int (nI x)), some (.int (nI 1)), none, none]) rfl (Nat.le_of_ble_eq_true rfl) rfl ?_
      refine E_aload_n at_X4_isOfKind_0 rfl ?_
      refine E_getfield (v := .ref (b + 1)) at_X4_isOfKind_1 h0 rfl (by decide) rfl ?_
      refine E_iload_n at_X4_isOfKind_4 rfl ?_
      refine E_ialN (l := qK s) (v := 1) at_X4_isOfKind_5 h1 (by omega) (by omega) e ?_
      refine E_istore_n (L2 := [some (.ref b), some (.int (nI x)), some (.int (nI 1)), some (.int (nI 1)), none]) at_X4_isOfKind_6 rfl ?_
      refine E_iconst (x := nI 0) at_X4_isOfKind_7 (by decide) ?_
      refine E_istore (L2 := [some (.ref b), some (.int (nI x)), some (.int (nI 1)), some (.int (nI 1)), some (.int (nI 0))]) at_X4_isOfKind_8 rfl ?_
      refine E_iload at_X4_isOfKind_10 rfl ?_
      refine E_bipush (x := nI 7) at_X4_isOfKind_12 (by decide) ?_
      refine E_ic (t := 41) (b := false) at_X4_isOfKind_14 rfl (by decide) ?_
      refine E_iload_n at_X4_isOfKind_17 rfl ?_
      refine E_iload_n at_X4_isOfKind_18 rfl ?_
      refine E_ic (t := 41) (b := true) at_X4_isOfKind_19 rfl (by decide) ?_
      refine E_iload_n at_X4_isOfKind_41 rfl ?_
      refine E_iload_n at_X4_isOfKind_42 rfl ?_
      refine E_ic (t := 50) (b := false) at_X4_isOfKind_43 rfl (by decide) ?_
      refine E_iconst (x := nI 1) at_X4_isOfKind_46 (by decide) ?_
      refine E_goto (t := 51) at_X4_isOfKind_47 rfl ?_
      exact E_iret at_X4_isOfKind_51 rfl
    · by_cases f2 : w = 0
      · subst f2
        rw [show qOf 1 0 = 1 from (by first | exact if_pos (by omega) | exact if_neg (by omega))]
        refine Ef.in (md := mX4_isOfKind) (L := [some (.ref b), some (.int (nI x)), some (.int (nI 0)), none, none]) rfl (Nat.le_of_ble_eq_true rfl) rfl ?_
        refine E_aload_n at_X4_isOfKind_0 rfl ?_
        refine E_getfield (v := .ref (b + 1)) at_X4_isOfKind_1 h0 rfl (by decide) rfl ?_
        refine E_iload_n at_X4_isOfKind_4 rfl ?_
        refine E_ialN (l := qK s) (v := 1) at_X4_isOfKind_5 h1 (by omega) (by omega) e ?_
        refine E_istore_n (L2 := [some (.ref b), some (.int (nI x)), some (.int (nI 0)), some (.int (nI 1)), none]) at_X4_isOfKind_6 rfl ?_
        refine E_iconst (x := nI 0) at_X4_isOfKind_7 (by decide) ?_
        refine E_istore (L2 := [some (.ref b), some (.int (nI x)), some (.int (nI 0)), some (.int (nI 1)), some (.int (nI 0))]) at_X4_isOfKind_8 rfl ?_
        refine E_iload at_X4_isOfKind_10 rfl ?_
        refine E_bipush (x := nI 7) at_X4_isOfKind_12 (by decide) ?_
        refine E_ic (t := 41) (b := false) at_X4_isOfKind_14 rfl (by decide) ?_
        refine E_iload_n at_X4_isOfKind_17 rfl ?_
        refine E_iload_n at_X4_isOfKind_18 rfl ?_
        refine E_ic (t := 41) (b := false) at_X4_isOfKind_19 rfl (by decide) ?_
        refine E_iload_n at_X4_isOfKind_22 rfl ?_
        have e1 : Ev ab_Z0 1 46 [.int (nI 1)] cs (some (.int (nI 1)), cs) := by
          refine Ef.in (md := mX4_isKind) (L := [some (.int (nI 1))]) rfl (Nat.le_of_ble_eq_true rfl) rfl ?_
          refine E_iload_n at_X4_isKind_0 rfl ?_
          refine E_if (t := 14) (b := false) at_X4_isKind_1 rfl (by decide) ?_
          refine E_iload_n at_X4_isKind_4 rfl ?_
          refine E_bipush (x := nI 7) at_X4_isKind_5 (by decide) ?_
          refine E_ic (t := 14) (b := false) at_X4_isKind_7 rfl (by decide) ?_
          refine E_iconst (x := nI 1) at_X4_isKind_10 (by decide) ?_
          refine E_goto (t := 15) at_X4_isKind_11 rfl ?_
          exact E_iret at_X4_isKind_15 rfl
        refine E_callS (v := some (.int (nI 1))) (As := [.int (nI 1)]) (r0 := []) (cs2 := cs) at_X4_isOfKind_23 rfl rfl (Nat.le_of_ble_eq_true rfl) rfl e1 (by decide) rfl ?_
        refine E_if (t := 41) (b := false) at_X4_isOfKind_26 rfl (by decide) ?_
        refine E_getstatic (t := 1000000) at_X4_isOfKind_29 rfl ?_
        refine E_iload_n at_X4_isOfKind_32 rfl ?_
        refine E_tload (x := nI 0) (j := 1) (t := 0) at_X4_isOfKind_33 hN rfl (by decide) rfl (by decide) (by decide) rfl ?_
        refine E_istore_n (L2 := [some (.ref b), some (.int (nI x)), some (.int (nI 0)), some (.int (nI 0)), some (.int (nI 0))]) at_X4_isOfKind_34 rfl ?_
        refine E_iinc (y := nI 1) (L2 := [some (.ref b), some (.int (nI x)), some (.int (nI 0)), some (.int (nI 0)), some (.int (nI 1))]) at_X4_isOfKind_35 rfl (by decide) rfl ?_
        refine E_goto (t := 10) at_X4_isOfKind_38 rfl ?_
        refine E_iload at_X4_isOfKind_10 rfl ?_
        refine E_bipush (x := nI 7) at_X4_isOfKind_12 (by decide) ?_
        refine E_ic (t := 41) (b := false) at_X4_isOfKind_14 rfl (by decide) ?_
        refine E_iload_n at_X4_isOfKind_17 rfl ?_
        refine E_iload_n at_X4_isOfKind_18 rfl ?_
        refine E_ic (t := 41) (b := true) at_X4_isOfKind_19 rfl (by decide) ?_
        refine E_iload_n at_X4_isOfKind_41 rfl ?_
        refine E_iload_n at_X4_isOfKind_42 rfl ?_
        refine E_ic (t := 50) (b := false) at_X4_isOfKind_43 rfl (by decide) ?_
        refine E_iconst (x := nI 1) at_X4_isOfKind_46 (by decide) ?_
        refine E_goto (t := 51) at_X4_isOfKind_47 rfl ?_
        exact E_iret at_X4_isOfKind_51 rfl
      · rw [show qOf 1 w = 0 from (by first | exact if_pos (by omega) | exact if_neg (by omega))]
        refine Ef.in (md := mX4_isOfKind) (L := [some (.ref b), some (.int (nI x)), some (.int (nI w)), none, none]) rfl (Nat.le_of_ble_eq_true rfl) rfl ?_
        refine E_aload_n at_X4_isOfKind_0 rfl ?_
        refine E_getfield (v := .ref (b + 1)) at_X4_isOfKind_1 h0 rfl (by decide) rfl ?_
        refine E_iload_n at_X4_isOfKind_4 rfl ?_
        refine E_ialN (l := qK s) (v := 1) at_X4_isOfKind_5 h1 (by omega) (by omega) e ?_
        refine E_istore_n (L2 := [some (.ref b), some (.int (nI x)), some (.int (nI w)), some (.int (nI 1)), none]) at_X4_isOfKind_6 rfl ?_
        refine E_iconst (x := nI 0) at_X4_isOfKind_7 (by decide) ?_
        refine E_istore (L2 := [some (.ref b), some (.int (nI x)), some (.int (nI w)), some (.int (nI 1)), some (.int (nI 0))]) at_X4_isOfKind_8 rfl ?_
        refine E_iload at_X4_isOfKind_10 rfl ?_
        refine E_bipush (x := nI 7) at_X4_isOfKind_12 (by decide) ?_
        refine E_ic (t := 41) (b := false) at_X4_isOfKind_14 rfl (by decide) ?_
        refine E_iload_n at_X4_isOfKind_17 rfl ?_
        refine E_iload_n at_X4_isOfKind_18 rfl ?_
        refine E_ic (t := 41) (b := false) at_X4_isOfKind_19 rfl ((cn_eq (nI_toInt (by omega)) (nI_toInt (by omega))).trans (decide_eq_false (by omega))) ?_
        refine E_iload_n at_X4_isOfKind_22 rfl ?_
        have e1 : Ev ab_Z0 1 46 [.int (nI 1)] cs (some (.int (nI 1)), cs) := by
          refine Ef.in (md := mX4_isKind) (L := [some (.int (nI 1))]) rfl (Nat.le_of_ble_eq_true rfl) rfl ?_
          refine E_iload_n at_X4_isKind_0 rfl ?_
          refine E_if (t := 14) (b := false) at_X4_isKind_1 rfl (by decide) ?_
          refine E_iload_n at_X4_isKind_4 rfl ?_
          refine E_bipush (x := nI 7) at_X4_isKind_5 (by decide) ?_
          refine E_ic (t := 14) (b := false) at_X4_isKind_7 rfl (by decide) ?_
          refine E_iconst (x := nI 1) at_X4_isKind_10 (by decide) ?_
          refine E_goto (t := 15) at_X4_isKind_11 rfl ?_
          exact E_iret at_X4_isKind_15 rfl
        refine E_callS (v := some (.int (nI 1))) (As := [.int (nI 1)]) (r0 := []) (cs2 := cs) at_X4_isOfKind_23 rfl rfl (Nat.le_of_ble_eq_true rfl) rfl e1 (by decide) rfl ?_
        refine E_if (t := 41) (b := false) at_X4_isOfKind_26 rfl (by decide) ?_
        refine E_getstatic (t := 1000000) at_X4_isOfKind_29 rfl ?_
        refine E_iload_n at_X4_isOfKind_32 rfl ?_
        refine E_tload (x := nI 0) (j := 1) (t := 0) at_X4_isOfKind_33 hN rfl (by decide) rfl (by decide) (by decide) rfl ?_
        refine E_istore_n (L2 := [some (.ref b), some (.int (nI x)), some (.int (nI w)), some (.int (nI 0)), some (.int (nI 0))]) at_X4_isOfKind_34 rfl ?_
        refine E_iinc (y := nI 1) (L2 := [some (.ref b), some (.int (nI x)), some (.int (nI w)), some (.int (nI 0)), some (.int (nI 1))]) at_X4_isOfKind_35 rfl (by decide) rfl ?_
        refine E_goto (t := 10) at_X4_isOfKind_38 rfl ?_
        refine E_iload at_X4_isOfKind_10 rfl ?_
        refine E_bipush (x := nI 7) at_X4_isOfKind_12 (by decide) ?_
        refine E_ic (t := 41) (b := false) at_X4_isOfKind_14 rfl (by decide) ?_
        refine E_iload_n at_X4_isOfKind_17 rfl ?_
        refine E_iload_n at_X4_isOfKind_18 rfl ?_
        refine E_ic (t := 41) (b := false) at_X4_isOfKind_19 rfl ((cn_eq (nI_toInt (by omega)) (nI_toInt (by omega))).trans (decide_eq_false (by omega))) ?_
        refine E_iload_n at_X4_isOfKind_22 rfl ?_
        have e2 : Ev ab_Z0 1 46 [.int (nI 0)] cs (some (.int (nI 1)), cs) := by
          refine Ef.in (md := mX4_isKind) (L := [some (.int (nI 0))]) rfl (Nat.le_of_ble_eq_true rfl) rfl ?_
          refine E_iload_n at_X4_isKind_0 rfl ?_
          refine E_if (t := 14) (b := false) at_X4_isKind_1 rfl (by decide) ?_
          refine E_iload_n at_X4_isKind_4 rfl ?_
          refine E_bipush (x := nI 7) at_X4_isKind_5 (by decide) ?_
          refine E_ic (t := 14) (b := false) at_X4_isKind_7 rfl (by decide) ?_
          refine E_iconst (x := nI 1) at_X4_isKind_10 (by decide) ?_
          refine E_goto (t := 15) at_X4_isKind_11 rfl ?_
          exact E_iret at_X4_isKind_15 rfl
        refine E_callS (v := some (.int (nI 1))) (As := [.int (nI 0)]) (r0 := []) (cs2 := cs) at_X4_isOfKind_23 rfl rfl (Nat.le_of_ble_eq_true rfl) rfl e2 (by decide) rfl ?_
        refine E_if (t := 41) (b := false) at_X4_isOfKind_26 rfl (by decide) ?_
        refine E_getstatic (t := 1000000) at_X4_isOfKind_29 rfl ?_
        refine E_iload_n at_X4_isOfKind_32 rfl ?_
        refine E_tload (x := (-1)) (j := 0) (t := 0) at_X4_isOfKind_33 hN rfl (by decide) rfl (by decide) (by decide) rfl ?_
        refine E_istore_n (L2 := [some (.ref b), some (.int (nI x)), some (.int (nI w)), some (.int (-1)), some (.int (nI 1))]) at_X4_isOfKind_34 rfl ?_
        refine E_iinc (y := nI 2) (L2 := [some (.ref b), some (.int (nI x)), some (.int (nI w)), some (.int (-1)), some (.int (nI 2))]) at_X4_isOfKind_35 rfl (by decide) rfl ?_
        refine E_goto (t := 10) at_X4_isOfKind_38 rfl ?_
        refine E_iload at_X4_isOfKind_10 rfl ?_
        refine E_bipush (x := nI 7) at_X4_isOfKind_12 (by decide) ?_
        refine E_ic (t := 41) (b := false) at_X4_isOfKind_14 rfl (by decide) ?_
        refine E_iload_n at_X4_isOfKind_17 rfl ?_
        refine E_iload_n at_X4_isOfKind_18 rfl ?_
        refine E_ic (t := 41) (b := false) at_X4_isOfKind_19 rfl ((cn_eq (by decide : (-1 : Int32).toInt = -1) (nI_toInt (by omega))).trans (decide_eq_false (by omega))) ?_
        refine E_iload_n at_X4_isOfKind_22 rfl ?_
        have e3 : Ev ab_Z0 1 46 [.int (-1)] cs (some (.int (nI 0)), cs) := by
          refine Ef.in (md := mX4_isKind) (L := [some (.int (-1))]) rfl (Nat.le_of_ble_eq_true rfl) rfl ?_
          refine E_iload_n at_X4_isKind_0 rfl ?_
          refine E_if (t := 14) (b := true) at_X4_isKind_1 rfl (by decide) ?_
          refine E_iconst (x := nI 0) at_X4_isKind_14 (by decide) ?_
          exact E_iret at_X4_isKind_15 rfl
        refine E_callS (v := some (.int (nI 0))) (As := [.int (-1)]) (r0 := []) (cs2 := cs) at_X4_isOfKind_23 rfl rfl (Nat.le_of_ble_eq_true rfl) rfl e3 (by decide) rfl ?_
        refine E_if (t := 41) (b := true) at_X4_isOfKind_26 rfl (by decide) ?_
        refine E_iload_n at_X4_isOfKind_41 rfl ?_
        refine E_iload_n at_X4_isOfKind_42 rfl ?_
        refine E_ic (t := 50) (b := true) at_X4_isOfKind_43 rfl ((cn_ne (by decide : (-1 : Int32).toInt = -1) (nI_toInt (by omega))).trans (decide_eq_true (by omega))) ?_
        refine E_iconst (x := nI 0) at_X4_isOfKind_50 (by decide) ?_
        exact E_iret at_X4_isOfKind_51 rfl
  · by_cases f1 : w = 2
    · subst f1
      rw [show qOf 2 2 = 1 from (by first | exact if_pos (by omega) | exact if_neg (by omega))]
      refine Ef.in (md := mX4_isOfKind) (L := [some (.ref b), some (.int (nI x)), some (.int (nI 2)), none, none]) rfl (Nat.le_of_ble_eq_true rfl) rfl ?_
      refine E_aload_n at_X4_isOfKind_0 rfl ?_
      refine E_getfield (v := .ref (b + 1)) at_X4_isOfKind_1 h0 rfl (by decide) rfl ?_
      refine E_iload_n at_X4_isOfKind_4 rfl ?_
      refine E_ialN (l := qK s) (v := 2) at_X4_isOfKind_5 h1 (by omega) (by omega) e ?_
      refine E_istore_n (L2 := [some (.ref b), some (.int (nI x)), some (.int (nI 2)), some (.int (nI 2)), none]) at_X4_isOfKind_6 rfl ?_
      refine E_iconst (x := nI 0) at_X4_isOfKind_7 (by decide) ?_
      refine E_istore (L2 := [some (.ref b), some (.int (nI x)), some (.int (nI 2)), some (.int (nI 2)), some (.int (nI 0))]) at_X4_isOfKind_8 rfl ?_
      refine E_iload at_X4_isOfKind_10 rfl ?_
      refine E_bipush (x := nI 7) at_X4_isOfKind_12 (by decide) ?_
      refine E_ic (t := 41) (b := false) at_X4_isOfKind_14 rfl (by decide) ?_
      refine E_iload_n at_X4_isOfKind_17 rfl ?_
      refine E_iload_n at_X4_isOfKind_18 rfl ?_
      refine E_ic (t := 41) (b := true) at_X4_isOfKind_19 rfl (by decide) ?_
      refine E_iload_n at_X4_isOfKind_41 rfl ?_
      refine E_iload_n at_X4_isOfKind_42 rfl ?_
      refine E_ic (t := 50) (b := false) at_X4_isOfKind_43 rfl (by decide) ?_
      refine E_iconst (x := nI 1) at_X4_isOfKind_46 (by decide) ?_
      refine E_goto (t := 51) at_X4_isOfKind_47 rfl ?_
      exact E_iret at_X4_isOfKind_51 rfl
    · by_cases f2 : w = 0
      · subst f2
        rw [show qOf 2 0 = 1 from (by first | exact if_pos (by omega) | exact if_neg (by omega))]
        refine Ef.in (md := mX4_isOfKind) (L := [some (.ref b), some (.int (nI x)), some (.int (nI 0)), none, none]) rfl (Nat.le_of_ble_eq_true rfl) rfl ?_
        refine E_aload_n at_X4_isOfKind_0 rfl ?_
        refine E_getfield (v := .ref (b + 1)) at_X4_isOfKind_1 h0 rfl (by decide) rfl ?_
        refine E_iload_n at_X4_isOfKind_4 rfl ?_
        refine E_ialN (l := qK s) (v := 2) at_X4_isOfKind_5 h1 (by omega) (by omega) e ?_
        refine E_istore_n (L2 := [some (.ref b), some (.int (nI x)), some (.int (nI 0)), some (.int (nI 2)), none]) at_X4_isOfKind_6 rfl ?_
        refine E_iconst (x := nI 0) at_X4_isOfKind_7 (by decide) ?_
        refine E_istore (L2 := [some (.ref b), some (.int (nI x)), some (.int (nI 0)), some (.int (nI 2)), some (.int (nI 0))]) at_X4_isOfKind_8 rfl ?_
        refine E_iload at_X4_isOfKind_10 rfl ?_
        refine E_bipush (x := nI 7) at_X4_isOfKind_12 (by decide) ?_
        refine E_ic (t := 41) (b := false) at_X4_isOfKind_14 rfl (by decide) ?_
        refine E_iload_n at_X4_isOfKind_17 rfl ?_
        refine E_iload_n at_X4_isOfKind_18 rfl ?_
        refine E_ic (t := 41) (b := false) at_X4_isOfKind_19 rfl (by decide) ?_
        refine E_iload_n at_X4_isOfKind_22 rfl ?_
        have e1 : Ev ab_Z0 1 46 [.int (nI 2)] cs (some (.int (nI 1)), cs) := by
          refine Ef.in (md := mX4_isKind) (L := [some (.int (nI 2))]) rfl (Nat.le_of_ble_eq_true rfl) rfl ?_
          refine E_iload_n at_X4_isKind_0 rfl ?_
          refine E_if (t := 14) (b := false) at_X4_isKind_1 rfl (by decide) ?_
          refine E_iload_n at_X4_isKind_4 rfl ?_
          refine E_bipush (x := nI 7) at_X4_isKind_5 (by decide) ?_
          refine E_ic (t := 14) (b := false) at_X4_isKind_7 rfl (by decide) ?_
          refine E_iconst (x := nI 1) at_X4_isKind_10 (by decide) ?_
          refine E_goto (t := 15) at_X4_isKind_11 rfl ?_
          exact E_iret at_X4_isKind_15 rfl
        refine E_callS (v := some (.int (nI 1))) (As := [.int (nI 2)]) (r0 := []) (cs2 := cs) at_X4_isOfKind_23 rfl rfl (Nat.le_of_ble_eq_true rfl) rfl e1 (by decide) rfl ?_
        refine E_if (t := 41) (b := false) at_X4_isOfKind_26 rfl (by decide) ?_
        refine E_getstatic (t := 1000000) at_X4_isOfKind_29 rfl ?_
        refine E_iload_n at_X4_isOfKind_32 rfl ?_
        refine E_tload (x := nI 0) (j := 2) (t := 0) at_X4_isOfKind_33 hN rfl (by decide) rfl (by decide) (by decide) rfl ?_
        refine E_istore_n (L2 := [some (.ref b), some (.int (nI x)), some (.int (nI 0)), some (.int (nI 0)), some (.int (nI 0))]) at_X4_isOfKind_34 rfl ?_
        refine E_iinc (y := nI 1) (L2 := [some (.ref b), some (.int (nI x)), some (.int (nI 0)), some (.int (nI 0)), some (.int (nI 1))]) at_X4_isOfKind_35 rfl (by decide) rfl ?_
        refine E_goto (t := 10) at_X4_isOfKind_38 rfl ?_
        refine E_iload at_X4_isOfKind_10 rfl ?_
        refine E_bipush (x := nI 7) at_X4_isOfKind_12 (by decide) ?_
        refine E_ic (t := 41) (b := false) at_X4_isOfKind_14 rfl (by decide) ?_
        refine E_iload_n at_X4_isOfKind_17 rfl ?_
        refine E_iload_n at_X4_isOfKind_18 rfl ?_
        refine E_ic (t := 41) (b := true) at_X4_isOfKind_19 rfl (by decide) ?_
        refine E_iload_n at_X4_isOfKind_41 rfl ?_
        refine E_iload_n at_X4_isOfKind_42 rfl ?_
        refine E_ic (t := 50) (b := false) at_X4_isOfKind_43 rfl (by decide) ?_
        refine E_iconst (x := nI 1) at_X4_isOfKind_46 (by decide) ?_
        refine E_goto (t := 51) at_X4_isOfKind_47 rfl ?_
        exact E_iret at_X4_isOfKind_51 rfl
      · rw [show qOf 2 w = 0 from (by first | exact if_pos (by omega) | exact if_neg (by omega))]
        refine Ef.in (md := mX4_isOfKind) (L := [some (.ref b), some (.int (nI x)), some (.int (nI w)), none, none]) rfl (Nat.le_of_ble_eq_true rfl) rfl ?_
        refine E_aload_n at_X4_isOfKind_0 rfl ?_
        refine E_getfield (v := .ref (b + 1)) at_X4_isOfKind_1 h0 rfl (by decide) rfl ?_
        refine E_iload_n at_X4_isOfKind_4 rfl ?_
        refine E_ialN (l := qK s) (v := 2) at_X4_isOfKind_5 h1 (by omega) (by omega) e ?_
        refine E_istore_n (L2 := [some (.ref b), some (.int (nI x)), some (.int (nI w)), some (.int (nI 2)), none]) at_X4_isOfKind_6 rfl ?_
        refine E_iconst (x := nI 0) at_X4_isOfKind_7 (by decide) ?_
        refine E_istore (L2 := [some (.ref b), some (.int (nI x)), some (.int (nI w)), some (.int (nI 2)), some (.int (nI 0))]) at_X4_isOfKind_8 rfl ?_
        refine E_iload at_X4_isOfKind_10 rfl ?_
        refine E_bipush (x := nI 7) at_X4_isOfKind_12 (by decide) ?_
        refine E_ic (t := 41) (b := false) at_X4_isOfKind_14 rfl (by decide) ?_
        refine E_iload_n at_X4_isOfKind_17 rfl ?_
        refine E_iload_n at_X4_isOfKind_18 rfl ?_
        refine E_ic (t := 41) (b := false) at_X4_isOfKind_19 rfl ((cn_eq (nI_toInt (by omega)) (nI_toInt (by omega))).trans (decide_eq_false (by omega))) ?_
        refine E_iload_n at_X4_isOfKind_22 rfl ?_
        have e1 : Ev ab_Z0 1 46 [.int (nI 2)] cs (some (.int (nI 1)), cs) := by
          refine Ef.in (md := mX4_isKind) (L := [some (.int (nI 2))]) rfl (Nat.le_of_ble_eq_true rfl) rfl ?_
          refine E_iload_n at_X4_isKind_0 rfl ?_
          refine E_if (t := 14) (b := false) at_X4_isKind_1 rfl (by decide) ?_
          refine E_iload_n at_X4_isKind_4 rfl ?_
          refine E_bipush (x := nI 7) at_X4_isKind_5 (by decide) ?_
          refine E_ic (t := 14) (b := false) at_X4_isKind_7 rfl (by decide) ?_
          refine E_iconst (x := nI 1) at_X4_isKind_10 (by decide) ?_
          refine E_goto (t := 15) at_X4_isKind_11 rfl ?_
          exact E_iret at_X4_isKind_15 rfl
        refine E_callS (v := some (.int (nI 1))) (As := [.int (nI 2)]) (r0 := []) (cs2 := cs) at_X4_isOfKind_23 rfl rfl (Nat.le_of_ble_eq_true rfl) rfl e1 (by decide) rfl ?_
        refine E_if (t := 41) (b := false) at_X4_isOfKind_26 rfl (by decide) ?_
        refine E_getstatic (t := 1000000) at_X4_isOfKind_29 rfl ?_
        refine E_iload_n at_X4_isOfKind_32 rfl ?_
        refine E_tload (x := nI 0) (j := 2) (t := 0) at_X4_isOfKind_33 hN rfl (by decide) rfl (by decide) (by decide) rfl ?_
        refine E_istore_n (L2 := [some (.ref b), some (.int (nI x)), some (.int (nI w)), some (.int (nI 0)), some (.int (nI 0))]) at_X4_isOfKind_34 rfl ?_
        refine E_iinc (y := nI 1) (L2 := [some (.ref b), some (.int (nI x)), some (.int (nI w)), some (.int (nI 0)), some (.int (nI 1))]) at_X4_isOfKind_35 rfl (by decide) rfl ?_
        refine E_goto (t := 10) at_X4_isOfKind_38 rfl ?_
        refine E_iload at_X4_isOfKind_10 rfl ?_
        refine E_bipush (x := nI 7) at_X4_isOfKind_12 (by decide) ?_
        refine E_ic (t := 41) (b := false) at_X4_isOfKind_14 rfl (by decide) ?_
        refine E_iload_n at_X4_isOfKind_17 rfl ?_
        refine E_iload_n at_X4_isOfKind_18 rfl ?_
        refine E_ic (t := 41) (b := false) at_X4_isOfKind_19 rfl ((cn_eq (nI_toInt (by omega)) (nI_toInt (by omega))).trans (decide_eq_false (by omega))) ?_
        refine E_iload_n at_X4_isOfKind_22 rfl ?_
        have e2 : Ev ab_Z0 1 46 [.int (nI 0)] cs (some (.int (nI 1)), cs) := by
          refine Ef.in (md := mX4_isKind) (L := [some (.int (nI 0))]) rfl (Nat.le_of_ble_eq_true rfl) rfl ?_
          refine E_iload_n at_X4_isKind_0 rfl ?_
          refine E_if (t := 14) (b := false) at_X4_isKind_1 rfl (by decide) ?_
          refine E_iload_n at_X4_isKind_4 rfl ?_
          refine E_bipush (x := nI 7) at_X4_isKind_5 (by decide) ?_
          refine E_ic (t := 14) (b := false) at_X4_isKind_7 rfl (by decide) ?_
          refine E_iconst (x := nI 1) at_X4_isKind_10 (by decide) ?_
          refine E_goto (t := 15) at_X4_isKind_11 rfl ?_
          exact E_iret at_X4_isKind_15 rfl
        refine E_callS (v := some (.int (nI 1))) (As := [.int (nI 0)]) (r0 := []) (cs2 := cs) at_X4_isOfKind_23 rfl rfl (Nat.le_of_ble_eq_true rfl) rfl e2 (by decide) rfl ?_
        refine E_if (t := 41) (b := false) at_X4_isOfKind_26 rfl (by decide) ?_
        refine E_getstatic (t := 1000000) at_X4_isOfKind_29 rfl ?_
        refine E_iload_n at_X4_isOfKind_32 rfl ?_
        refine E_tload (x := (-1)) (j := 0) (t := 0) at_X4_isOfKind_33 hN rfl (by decide) rfl (by decide) (by decide) rfl ?_
        refine E_istore_n (L2 := [some (.ref b), some (.int (nI x)), some (.int (nI w)), some (.int (-1)), some (.int (nI 1))]) at_X4_isOfKind_34 rfl ?_
        refine E_iinc (y := nI 2) (L2 := [some (.ref b), some (.int (nI x)), some (.int (nI w)), some (.int (-1)), some (.int (nI 2))]) at_X4_isOfKind_35 rfl (by decide) rfl ?_
        refine E_goto (t := 10) at_X4_isOfKind_38 rfl ?_
        refine E_iload at_X4_isOfKind_10 rfl ?_
        refine E_bipush (x := nI 7) at_X4_isOfKind_12 (by decide) ?_
        refine E_ic (t := 41) (b := false) at_X4_isOfKind_14 rfl (by decide) ?_
        refine E_iload_n at_X4_isOfKind_17 rfl ?_
        refine E_iload_n at_X4_isOfKind_18 rfl ?_
        refine E_ic (t := 41) (b := false) at_X4_isOfKind_19 rfl ((cn_eq (by decide : (-1 : Int32).toInt = -1) (nI_toInt (by omega))).trans (decide_eq_false (by omega))) ?_
        refine E_iload_n at_X4_isOfKind_22 rfl ?_
        have e3 : Ev ab_Z0 1 46 [.int (-1)] cs (some (.int (nI 0)), cs) := by
          refine Ef.in (md := mX4_isKind) (L := [some (.int (-1))]) rfl (Nat.le_of_ble_eq_true rfl) rfl ?_
          refine E_iload_n at_X4_isKind_0 rfl ?_
          refine E_if (t := 14) (b := true) at_X4_isKind_1 rfl (by decide) ?_
          refine E_iconst (x := nI 0) at_X4_isKind_14 (by decide) ?_
          exact E_iret at_X4_isKind_15 rfl
        refine E_callS (v := some (.int (nI 0))) (As := [.int (-1)]) (r0 := []) (cs2 := cs) at_X4_isOfKind_23 rfl rfl (Nat.le_of_ble_eq_true rfl) rfl e3 (by decide) rfl ?_
        refine E_if (t := 41) (b := true) at_X4_isOfKind_26 rfl (by decide) ?_
        refine E_iload_n at_X4_isOfKind_41 rfl ?_
        refine E_iload_n at_X4_isOfKind_42 rfl ?_
        refine E_ic (t := 50) (b := true) at_X4_isOfKind_43 rfl ((cn_ne (by decide : (-1 : Int32).toInt = -1) (nI_toInt (by omega))).trans (decide_eq_true (by omega))) ?_
        refine E_iconst (x := nI 0) at_X4_isOfKind_50 (by decide) ?_
        exact E_iret at_X4_isOfKind_51 rfl
  · by_cases f1 : w = 3
    · subst f1
      rw [show qOf 3 3 = 1 from (by first | exact if_pos (by omega) | exact if_neg (by omega))]
      refine Ef.in (md := mX4_isOfKind) (L := [some (.ref b), some (.int (nI x)), some (.int (nI 3)), none, none]) rfl (Nat.le_of_ble_eq_true rfl) rfl ?_
      refine E_aload_n at_X4_isOfKind_0 rfl ?_
      refine E_getfield (v := .ref (b + 1)) at_X4_isOfKind_1 h0 rfl (by decide) rfl ?_
      refine E_iload_n at_X4_isOfKind_4 rfl ?_
      refine E_ialN (l := qK s) (v := 3) at_X4_isOfKind_5 h1 (by omega) (by omega) e ?_
      refine E_istore_n (L2 := [some (.ref b), some (.int (nI x)), some (.int (nI 3)), some (.int (nI 3)), none]) at_X4_isOfKind_6 rfl ?_
      refine E_iconst (x := nI 0) at_X4_isOfKind_7 (by decide) ?_
      refine E_istore (L2 := [some (.ref b), some (.int (nI x)), some (.int (nI 3)), some (.int (nI 3)), some (.int (nI 0))]) at_X4_isOfKind_8 rfl ?_
      refine E_iload at_X4_isOfKind_10 rfl ?_
      refine E_bipush (x := nI 7) at_X4_isOfKind_12 (by decide) ?_
      refine E_ic (t := 41) (b := false) at_X4_isOfKind_14 rfl (by decide) ?_
      refine E_iload_n at_X4_isOfKind_17 rfl ?_
      refine E_iload_n at_X4_isOfKind_18 rfl ?_
      refine E_ic (t := 41) (b := true) at_X4_isOfKind_19 rfl (by decide) ?_
      refine E_iload_n at_X4_isOfKind_41 rfl ?_
      refine E_iload_n at_X4_isOfKind_42 rfl ?_
      refine E_ic (t := 50) (b := false) at_X4_isOfKind_43 rfl (by decide) ?_
      refine E_iconst (x := nI 1) at_X4_isOfKind_46 (by decide) ?_
      refine E_goto (t := 51) at_X4_isOfKind_47 rfl ?_
      exact E_iret at_X4_isOfKind_51 rfl
    · by_cases f2 : w = 1
      · subst f2
        rw [show qOf 3 1 = 1 from (by first | exact if_pos (by omega) | exact if_neg (by omega))]
        refine Ef.in (md := mX4_isOfKind) (L := [some (.ref b), some (.int (nI x)), some (.int (nI 1)), none, none]) rfl (Nat.le_of_ble_eq_true rfl) rfl ?_
        refine E_aload_n at_X4_isOfKind_0 rfl ?_
        refine E_getfield (v := .ref (b + 1)) at_X4_isOfKind_1 h0 rfl (by decide) rfl ?_
        refine E_iload_n at_X4_isOfKind_4 rfl ?_
        refine E_ialN (l := qK s) (v := 3) at_X4_isOfKind_5 h1 (by omega) (by omega) e ?_
        refine E_istore_n (L2 := [some (.ref b), some (.int (nI x)), some (.int (nI 1)), some (.int (nI 3)), none]) at_X4_isOfKind_6 rfl ?_
        refine E_iconst (x := nI 0) at_X4_isOfKind_7 (by decide) ?_
        refine E_istore (L2 := [some (.ref b), some (.int (nI x)), some (.int (nI 1)), some (.int (nI 3)), some (.int (nI 0))]) at_X4_isOfKind_8 rfl ?_
        refine E_iload at_X4_isOfKind_10 rfl ?_
        refine E_bipush (x := nI 7) at_X4_isOfKind_12 (by decide) ?_
        refine E_ic (t := 41) (b := false) at_X4_isOfKind_14 rfl (by decide) ?_
        refine E_iload_n at_X4_isOfKind_17 rfl ?_
        refine E_iload_n at_X4_isOfKind_18 rfl ?_
        refine E_ic (t := 41) (b := false) at_X4_isOfKind_19 rfl (by decide) ?_
        refine E_iload_n at_X4_isOfKind_22 rfl ?_
        have e1 : Ev ab_Z0 1 46 [.int (nI 3)] cs (some (.int (nI 1)), cs) := by
          refine Ef.in (md := mX4_isKind) (L := [some (.int (nI 3))]) rfl (Nat.le_of_ble_eq_true rfl) rfl ?_
          refine E_iload_n at_X4_isKind_0 rfl ?_
          refine E_if (t := 14) (b := false) at_X4_isKind_1 rfl (by decide) ?_
          refine E_iload_n at_X4_isKind_4 rfl ?_
          refine E_bipush (x := nI 7) at_X4_isKind_5 (by decide) ?_
          refine E_ic (t := 14) (b := false) at_X4_isKind_7 rfl (by decide) ?_
          refine E_iconst (x := nI 1) at_X4_isKind_10 (by decide) ?_
          refine E_goto (t := 15) at_X4_isKind_11 rfl ?_
          exact E_iret at_X4_isKind_15 rfl
        refine E_callS (v := some (.int (nI 1))) (As := [.int (nI 3)]) (r0 := []) (cs2 := cs) at_X4_isOfKind_23 rfl rfl (Nat.le_of_ble_eq_true rfl) rfl e1 (by decide) rfl ?_
        refine E_if (t := 41) (b := false) at_X4_isOfKind_26 rfl (by decide) ?_
        refine E_getstatic (t := 1000000) at_X4_isOfKind_29 rfl ?_
        refine E_iload_n at_X4_isOfKind_32 rfl ?_
        refine E_tload (x := nI 1) (j := 3) (t := 0) at_X4_isOfKind_33 hN rfl (by decide) rfl (by decide) (by decide) rfl ?_
        refine E_istore_n (L2 := [some (.ref b), some (.int (nI x)), some (.int (nI 1)), some (.int (nI 1)), some (.int (nI 0))]) at_X4_isOfKind_34 rfl ?_
        refine E_iinc (y := nI 1) (L2 := [some (.ref b), some (.int (nI x)), some (.int (nI 1)), some (.int (nI 1)), some (.int (nI 1))]) at_X4_isOfKind_35 rfl (by decide) rfl ?_
        refine E_goto (t := 10) at_X4_isOfKind_38 rfl ?_
        refine E_iload at_X4_isOfKind_10 rfl ?_
        refine E_bipush (x := nI 7) at_X4_isOfKind_12 (by decide) ?_
        refine E_ic (t := 41) (b := false) at_X4_isOfKind_14 rfl (by decide) ?_
        refine E_iload_n at_X4_isOfKind_17 rfl ?_
        refine E_iload_n at_X4_isOfKind_18 rfl ?_
        refine E_ic (t := 41) (b := true) at_X4_isOfKind_19 rfl (by decide) ?_
        refine E_iload_n at_X4_isOfKind_41 rfl ?_
        refine E_iload_n at_X4_isOfKind_42 rfl ?_
        refine E_ic (t := 50) (b := false) at_X4_isOfKind_43 rfl (by decide) ?_
        refine E_iconst (x := nI 1) at_X4_isOfKind_46 (by decide) ?_
        refine E_goto (t := 51) at_X4_isOfKind_47 rfl ?_
        exact E_iret at_X4_isOfKind_51 rfl
      · by_cases f3 : w = 0
        · subst f3
          rw [show qOf 3 0 = 1 from (by first | exact if_pos (by omega) | exact if_neg (by omega))]
          refine Ef.in (md := mX4_isOfKind) (L := [some (.ref b), some (.int (nI x)), some (.int (nI 0)), none, none]) rfl (Nat.le_of_ble_eq_true rfl) rfl ?_
          refine E_aload_n at_X4_isOfKind_0 rfl ?_
          refine E_getfield (v := .ref (b + 1)) at_X4_isOfKind_1 h0 rfl (by decide) rfl ?_
          refine E_iload_n at_X4_isOfKind_4 rfl ?_
          refine E_ialN (l := qK s) (v := 3) at_X4_isOfKind_5 h1 (by omega) (by omega) e ?_
          refine E_istore_n (L2 := [some (.ref b), some (.int (nI x)), some (.int (nI 0)), some (.int (nI 3)), none]) at_X4_isOfKind_6 rfl ?_
          refine E_iconst (x := nI 0) at_X4_isOfKind_7 (by decide) ?_
          refine E_istore (L2 := [some (.ref b), some (.int (nI x)), some (.int (nI 0)), some (.int (nI 3)), some (.int (nI 0))]) at_X4_isOfKind_8 rfl ?_
          refine E_iload at_X4_isOfKind_10 rfl ?_
          refine E_bipush (x := nI 7) at_X4_isOfKind_12 (by decide) ?_
          refine E_ic (t := 41) (b := false) at_X4_isOfKind_14 rfl (by decide) ?_
          refine E_iload_n at_X4_isOfKind_17 rfl ?_
          refine E_iload_n at_X4_isOfKind_18 rfl ?_
          refine E_ic (t := 41) (b := false) at_X4_isOfKind_19 rfl (by decide) ?_
          refine E_iload_n at_X4_isOfKind_22 rfl ?_
          have e1 : Ev ab_Z0 1 46 [.int (nI 3)] cs (some (.int (nI 1)), cs) := by
            refine Ef.in (md := mX4_isKind) (L := [some (.int (nI 3))]) rfl (Nat.le_of_ble_eq_true rfl) rfl ?_
            refine E_iload_n at_X4_isKind_0 rfl ?_
            refine E_if (t := 14) (b := false) at_X4_isKind_1 rfl (by decide) ?_
            refine E_iload_n at_X4_isKind_4 rfl ?_
            refine E_bipush (x := nI 7) at_X4_isKind_5 (by decide) ?_
            refine E_ic (t := 14) (b := false) at_X4_isKind_7 rfl (by decide) ?_
            refine E_iconst (x := nI 1) at_X4_isKind_10 (by decide) ?_
            refine E_goto (t := 15) at_X4_isKind_11 rfl ?_
            exact E_iret at_X4_isKind_15 rfl
          refine E_callS (v := some (.int (nI 1))) (As := [.int (nI 3)]) (r0 := []) (cs2 := cs) at_X4_isOfKind_23 rfl rfl (Nat.le_of_ble_eq_true rfl) rfl e1 (by decide) rfl ?_
          refine E_if (t := 41) (b := false) at_X4_isOfKind_26 rfl (by decide) ?_
          refine E_getstatic (t := 1000000) at_X4_isOfKind_29 rfl ?_
          refine E_iload_n at_X4_isOfKind_32 rfl ?_
          refine E_tload (x := nI 1) (j := 3) (t := 0) at_X4_isOfKind_33 hN rfl (by decide) rfl (by decide) (by decide) rfl ?_
          refine E_istore_n (L2 := [some (.ref b), some (.int (nI x)), some (.int (nI 0)), some (.int (nI 1)), some (.int (nI 0))]) at_X4_isOfKind_34 rfl ?_
          refine E_iinc (y := nI 1) (L2 := [some (.ref b), some (.int (nI x)), some (.int (nI 0)), some (.int (nI 1)), some (.int (nI 1))]) at_X4_isOfKind_35 rfl (by decide) rfl ?_
          refine E_goto (t := 10) at_X4_isOfKind_38 rfl ?_
          refine E_iload at_X4_isOfKind_10 rfl ?_
          refine E_bipush (x := nI 7) at_X4_isOfKind_12 (by decide) ?_
          refine E_ic (t := 41) (b := false) at_X4_isOfKind_14 rfl (by decide) ?_
          refine E_iload_n at_X4_isOfKind_17 rfl ?_
          refine E_iload_n at_X4_isOfKind_18 rfl ?_
          refine E_ic (t := 41) (b := false) at_X4_isOfKind_19 rfl (by decide) ?_
          refine E_iload_n at_X4_isOfKind_22 rfl ?_
          have e2 : Ev ab_Z0 1 46 [.int (nI 1)] cs (some (.int (nI 1)), cs) := by
            refine Ef.in (md := mX4_isKind) (L := [some (.int (nI 1))]) rfl (Nat.le_of_ble_eq_true rfl) rfl ?_
            refine E_iload_n at_X4_isKind_0 rfl ?_
            refine E_if (t := 14) (b := false) at_X4_isKind_1 rfl (by decide) ?_
            refine E_iload_n at_X4_isKind_4 rfl ?_
            refine E_bipush (x := nI 7) at_X4_isKind_5 (by decide) ?_
            refine E_ic (t := 14) (b := false) at_X4_isKind_7 rfl (by decide) ?_
            refine E_iconst (x := nI 1) at_X4_isKind_10 (by decide) ?_
            refine E_goto (t := 15) at_X4_isKind_11 rfl ?_
            exact E_iret at_X4_isKind_15 rfl
          refine E_callS (v := some (.int (nI 1))) (As := [.int (nI 1)]) (r0 := []) (cs2 := cs) at_X4_isOfKind_23 rfl rfl (Nat.le_of_ble_eq_true rfl) rfl e2 (by decide) rfl ?_
          refine E_if (t := 41) (b := false) at_X4_isOfKind_26 rfl (by decide) ?_
          refine E_getstatic (t := 1000000) at_X4_isOfKind_29 rfl ?_
          refine E_iload_n at_X4_isOfKind_32 rfl ?_
          refine E_tload (x := nI 0) (j := 1) (t := 0) at_X4_isOfKind_33 hN rfl (by decide) rfl (by decide) (by decide) rfl ?_
          refine E_istore_n (L2 := [some (.ref b), some (.int (nI x)), some (.int (nI 0)), some (.int (nI 0)), some (.int (nI 1))]) at_X4_isOfKind_34 rfl ?_
          refine E_iinc (y := nI 2) (L2 := [some (.ref b), some (.int (nI x)), some (.int (nI 0)), some (.int (nI 0)), some (.int (nI 2))]) at_X4_isOfKind_35 rfl (by decide) rfl ?_
          refine E_goto (t := 10) at_X4_isOfKind_38 rfl ?_
          refine E_iload at_X4_isOfKind_10 rfl ?_
          refine E_bipush (x := nI 7) at_X4_isOfKind_12 (by decide) ?_
          refine E_ic (t := 41) (b := false) at_X4_isOfKind_14 rfl (by decide) ?_
          refine E_iload_n at_X4_isOfKind_17 rfl ?_
          refine E_iload_n at_X4_isOfKind_18 rfl ?_
          refine E_ic (t := 41) (b := true) at_X4_isOfKind_19 rfl (by decide) ?_
          refine E_iload_n at_X4_isOfKind_41 rfl ?_
          refine E_iload_n at_X4_isOfKind_42 rfl ?_
          refine E_ic (t := 50) (b := false) at_X4_isOfKind_43 rfl (by decide) ?_
          refine E_iconst (x := nI 1) at_X4_isOfKind_46 (by decide) ?_
          refine E_goto (t := 51) at_X4_isOfKind_47 rfl ?_
          exact E_iret at_X4_isOfKind_51 rfl
        · rw [show qOf 3 w = 0 from (by first | exact if_pos (by omega) | exact if_neg (by omega))]
          refine Ef.in (md := mX4_isOfKind) (L := [some (.ref b), some (.int (nI x)), some (.int (nI w)), none, none]) rfl (Nat.le_of_ble_eq_true rfl) rfl ?_
          refine E_aload_n at_X4_isOfKind_0 rfl ?_
          refine E_getfield (v := .ref (b + 1)) at_X4_isOfKind_1 h0 rfl (by decide) rfl ?_
          refine E_iload_n at_X4_isOfKind_4 rfl ?_
          refine E_ialN (l := qK s) (v := 3) at_X4_isOfKind_5 h1 (by omega) (by omega) e ?_
          refine E_istore_n (L2 := [some (.ref b), some (.int (nI x)), some (.int (nI w)), some (.int (nI 3)), none]) at_X4_isOfKind_6 rfl ?_
          refine E_iconst (x := nI 0) at_X4_isOfKind_7 (by decide) ?_
          refine E_istore (L2 := [some (.ref b), some (.int (nI x)), some (.int (nI w)), some (.int (nI 3)), some (.int (nI 0))]) at_X4_isOfKind_8 rfl ?_
          refine E_iload at_X4_isOfKind_10 rfl ?_
          refine E_bipush (x := nI 7) at_X4_isOfKind_12 (by decide) ?_
          refine E_ic (t := 41) (b := false) at_X4_isOfKind_14 rfl (by decide) ?_
          refine E_iload_n at_X4_isOfKind_17 rfl ?_
          refine E_iload_n at_X4_isOfKind_18 rfl ?_
          refine E_ic (t := 41) (b := false) at_X4_isOfKind_19 rfl ((cn_eq (nI_toInt (by omega)) (nI_toInt (by omega))).trans (decide_eq_false (by omega))) ?_
          refine E_iload_n at_X4_isOfKind_22 rfl ?_
          have e1 : Ev ab_Z0 1 46 [.int (nI 3)] cs (some (.int (nI 1)), cs) := by
            refine Ef.in (md := mX4_isKind) (L := [some (.int (nI 3))]) rfl (Nat.le_of_ble_eq_true rfl) rfl ?_
            refine E_iload_n at_X4_isKind_0 rfl ?_
            refine E_if (t := 14) (b := false) at_X4_isKind_1 rfl (by decide) ?_
            refine E_iload_n at_X4_isKind_4 rfl ?_
            refine E_bipush (x := nI 7) at_X4_isKind_5 (by decide) ?_
            refine E_ic (t := 14) (b := false) at_X4_isKind_7 rfl (by decide) ?_
            refine E_iconst (x := nI 1) at_X4_isKind_10 (by decide) ?_
            refine E_goto (t := 15) at_X4_isKind_11 rfl ?_
            exact E_iret at_X4_isKind_15 rfl
          refine E_callS (v := some (.int (nI 1))) (As := [.int (nI 3)]) (r0 := []) (cs2 := cs) at_X4_isOfKind_23 rfl rfl (Nat.le_of_ble_eq_true rfl) rfl e1 (by decide) rfl ?_
          refine E_if (t := 41) (b := false) at_X4_isOfKind_26 rfl (by decide) ?_
          refine E_getstatic (t := 1000000) at_X4_isOfKind_29 rfl ?_
          refine E_iload_n at_X4_isOfKind_32 rfl ?_
          refine E_tload (x := nI 1) (j := 3) (t := 0) at_X4_isOfKind_33 hN rfl (by decide) rfl (by decide) (by decide) rfl ?_
          refine E_istore_n (L2 := [some (.ref b), some (.int (nI x)), some (.int (nI w)), some (.int (nI 1)), some (.int (nI 0))]) at_X4_isOfKind_34 rfl ?_
          refine E_iinc (y := nI 1) (L2 := [some (.ref b), some (.int (nI x)), some (.int (nI w)), some (.int (nI 1)), some (.int (nI 1))]) at_X4_isOfKind_35 rfl (by decide) rfl ?_
          refine E_goto (t := 10) at_X4_isOfKind_38 rfl ?_
          refine E_iload at_X4_isOfKind_10 rfl ?_
          refine E_bipush (x := nI 7) at_X4_isOfKind_12 (by decide) ?_
          refine E_ic (t := 41) (b := false) at_X4_isOfKind_14 rfl (by decide) ?_
          refine E_iload_n at_X4_isOfKind_17 rfl ?_
          refine E_iload_n at_X4_isOfKind_18 rfl ?_
          refine E_ic (t := 41) (b := false) at_X4_isOfKind_19 rfl ((cn_eq (nI_toInt (by omega)) (nI_toInt (by omega))).trans (decide_eq_false (by omega))) ?_
          refine E_iload_n at_X4_isOfKind_22 rfl ?_
          have e2 : Ev ab_Z0 1 46 [.int (nI 1)] cs (some (.int (nI 1)), cs) := by
            refine Ef.in (md := mX4_isKind) (L := [some (.int (nI 1))]) rfl (Nat.le_of_ble_eq_true rfl) rfl ?_
            refine E_iload_n at_X4_isKind_0 rfl ?_
            refine E_if (t := 14) (b := false) at_X4_isKind_1 rfl (by decide) ?_
            refine E_iload_n at_X4_isKind_4 rfl ?_
            refine E_bipush (x := nI 7) at_X4_isKind_5 (by decide) ?_
            refine E_ic (t := 14) (b := false) at_X4_isKind_7 rfl (by decide) ?_
            refine E_iconst (x := nI 1) at_X4_isKind_10 (by decide) ?_
            refine E_goto (t := 15) at_X4_isKind_11 rfl ?_
            exact E_iret at_X4_isKind_15 rfl
          refine E_callS (v := some (.int (nI 1))) (As := [.int (nI 1)]) (r0 := []) (cs2 := cs) at_X4_isOfKind_23 rfl rfl (Nat.le_of_ble_eq_true rfl) rfl e2 (by decide) rfl ?_
          refine E_if (t := 41) (b := false) at_X4_isOfKind_26 rfl (by decide) ?_
          refine E_getstatic (t := 1000000) at_X4_isOfKind_29 rfl ?_
          refine E_iload_n at_X4_isOfKind_32 rfl ?_
          refine E_tload (x := nI 0) (j := 1) (t := 0) at_X4_isOfKind_33 hN rfl (by decide) rfl (by decide) (by decide) rfl ?_
          refine E_istore_n (L2 := [some (.ref b), some (.int (nI x)), some (.int (nI w)), some (.int (nI 0)), some (.int (nI 1))]) at_X4_isOfKind_34 rfl ?_
          refine E_iinc (y := nI 2) (L2 := [some (.ref b), some (.int (nI x)), some (.int (nI w)), some (.int (nI 0)), some (.int (nI 2))]) at_X4_isOfKind_35 rfl (by decide) rfl ?_
          refine E_goto (t := 10) at_X4_isOfKind_38 rfl ?_
          refine E_iload at_X4_isOfKind_10 rfl ?_
          refine E_bipush (x := nI 7) at_X4_isOfKind_12 (by decide) ?_
          refine E_ic (t := 41) (b := false) at_X4_isOfKind_14 rfl (by decide) ?_
          refine E_iload_n at_X4_isOfKind_17 rfl ?_
          refine E_iload_n at_X4_isOfKind_18 rfl ?_
          refine E_ic (t := 41) (b := false) at_X4_isOfKind_19 rfl ((cn_eq (nI_toInt (by omega)) (nI_toInt (by omega))).trans (decide_eq_false (by omega))) ?_
          refine E_iload_n at_X4_isOfKind_22 rfl ?_
          have e3 : Ev ab_Z0 1 46 [.int (nI 0)] cs (some (.int (nI 1)), cs) := by
            refine Ef.in (md := mX4_isKind) (L := [some (.int (nI 0))]) rfl (Nat.le_of_ble_eq_true rfl) rfl ?_
            refine E_iload_n at_X4_isKind_0 rfl ?_
            refine E_if (t := 14) (b := false) at_X4_isKind_1 rfl (by decide) ?_
            refine E_iload_n at_X4_isKind_4 rfl ?_
            refine E_bipush (x := nI 7) at_X4_isKind_5 (by decide) ?_
            refine E_ic (t := 14) (b := false) at_X4_isKind_7 rfl (by decide) ?_
            refine E_iconst (x := nI 1) at_X4_isKind_10 (by decide) ?_
            refine E_goto (t := 15) at_X4_isKind_11 rfl ?_
            exact E_iret at_X4_isKind_15 rfl
          refine E_callS (v := some (.int (nI 1))) (As := [.int (nI 0)]) (r0 := []) (cs2 := cs) at_X4_isOfKind_23 rfl rfl (Nat.le_of_ble_eq_true rfl) rfl e3 (by decide) rfl ?_
          refine E_if (t := 41) (b := false) at_X4_isOfKind_26 rfl (by decide) ?_
          refine E_getstatic (t := 1000000) at_X4_isOfKind_29 rfl ?_
          refine E_iload_n at_X4_isOfKind_32 rfl ?_
          refine E_tload (x := (-1)) (j := 0) (t := 0) at_X4_isOfKind_33 hN rfl (by decide) rfl (by decide) (by decide) rfl ?_
          refine E_istore_n (L2 := [some (.ref b), some (.int (nI x)), some (.int (nI w)), some (.int (-1)), some (.int (nI 2))]) at_X4_isOfKind_34 rfl ?_
          refine E_iinc (y := nI 3) (L2 := [some (.ref b), some (.int (nI x)), some (.int (nI w)), some (.int (-1)), some (.int (nI 3))]) at_X4_isOfKind_35 rfl (by decide) rfl ?_
          refine E_goto (t := 10) at_X4_isOfKind_38 rfl ?_
          refine E_iload at_X4_isOfKind_10 rfl ?_
          refine E_bipush (x := nI 7) at_X4_isOfKind_12 (by decide) ?_
          refine E_ic (t := 41) (b := false) at_X4_isOfKind_14 rfl (by decide) ?_
          refine E_iload_n at_X4_isOfKind_17 rfl ?_
          refine E_iload_n at_X4_isOfKind_18 rfl ?_
          refine E_ic (t := 41) (b := false) at_X4_isOfKind_19 rfl ((cn_eq (by decide : (-1 : Int32).toInt = -1) (nI_toInt (by omega))).trans (decide_eq_false (by omega))) ?_
          refine E_iload_n at_X4_isOfKind_22 rfl ?_
          have e4 : Ev ab_Z0 1 46 [.int (-1)] cs (some (.int (nI 0)), cs) := by
            refine Ef.in (md := mX4_isKind) (L := [some (.int (-1))]) rfl (Nat.le_of_ble_eq_true rfl) rfl ?_
            refine E_iload_n at_X4_isKind_0 rfl ?_
            refine E_if (t := 14) (b := true) at_X4_isKind_1 rfl (by decide) ?_
            refine E_iconst (x := nI 0) at_X4_isKind_14 (by decide) ?_
            exact E_iret at_X4_isKind_15 rfl
          refine E_callS (v := some (.int (nI 0))) (As := [.int (-1)]) (r0 := []) (cs2 := cs) at_X4_isOfKind_23 rfl rfl (Nat.le_of_ble_eq_true rfl) rfl e4 (by decide) rfl ?_
          refine E_if (t := 41) (b := true) at_X4_isOfKind_26 rfl (by decide) ?_
          refine E_iload_n at_X4_isOfKind_41 rfl ?_
          refine E_iload_n at_X4_isOfKind_42 rfl ?_
          refine E_ic (t := 50) (b := true) at_X4_isOfKind_43 rfl ((cn_ne (by decide : (-1 : Int32).toInt = -1) (nI_toInt (by omega))).trans (decide_eq_true (by omega))) ?_
          refine E_iconst (x := nI 0) at_X4_isOfKind_50 (by decide) ?_
          exact E_iret at_X4_isOfKind_51 rfl
  · by_cases f1 : w = 4
    · subst f1
      rw [show qOf 4 4 = 1 from (by first | exact if_pos (by omega) | exact if_neg (by omega))]
      refine Ef.in (md := mX4_isOfKind) (L := [some (.ref b), some (.int (nI x)), some (.int (nI 4)), none, none]) rfl (Nat.le_of_ble_eq_true rfl) rfl ?_
      refine E_aload_n at_X4_isOfKind_0 rfl ?_
      refine E_getfield (v := .ref (b + 1)) at_X4_isOfKind_1 h0 rfl (by decide) rfl ?_
      refine E_iload_n at_X4_isOfKind_4 rfl ?_
      refine E_ialN (l := qK s) (v := 4) at_X4_isOfKind_5 h1 (by omega) (by omega) e ?_
      refine E_istore_n (L2 := [some (.ref b), some (.int (nI x)), some (.int (nI 4)), some (.int (nI 4)), none]) at_X4_isOfKind_6 rfl ?_
      refine E_iconst (x := nI 0) at_X4_isOfKind_7 (by decide) ?_
      refine E_istore (L2 := [some (.ref b), some (.int (nI x)), some (.int (nI 4)), some (.int (nI 4)), some (.int (nI 0))]) at_X4_isOfKind_8 rfl ?_
      refine E_iload at_X4_isOfKind_10 rfl ?_
      refine E_bipush (x := nI 7) at_X4_isOfKind_12 (by decide) ?_
      refine E_ic (t := 41) (b := false) at_X4_isOfKind_14 rfl (by decide) ?_
      refine E_iload_n at_X4_isOfKind_17 rfl ?_
      refine E_iload_n at_X4_isOfKind_18 rfl ?_
      refine E_ic (t := 41) (b := true) at_X4_isOfKind_19 rfl (by decide) ?_
      refine E_iload_n at_X4_isOfKind_41 rfl ?_
      refine E_iload_n at_X4_isOfKind_42 rfl ?_
      refine E_ic (t := 50) (b := false) at_X4_isOfKind_43 rfl (by decide) ?_
      refine E_iconst (x := nI 1) at_X4_isOfKind_46 (by decide) ?_
      refine E_goto (t := 51) at_X4_isOfKind_47 rfl ?_
      exact E_iret at_X4_isOfKind_51 rfl
    · by_cases f2 : w = 0
      · subst f2
        rw [show qOf 4 0 = 1 from (by first | exact if_pos (by omega) | exact if_neg (by omega))]
        refine Ef.in (md := mX4_isOfKind) (L := [some (.ref b), some (.int (nI x)), some (.int (nI 0)), none, none]) rfl (Nat.le_of_ble_eq_true rfl) rfl ?_
        refine E_aload_n at_X4_isOfKind_0 rfl ?_
        refine E_getfield (v := .ref (b + 1)) at_X4_isOfKind_1 h0 rfl (by decide) rfl ?_
        refine E_iload_n at_X4_isOfKind_4 rfl ?_
        refine E_ialN (l := qK s) (v := 4) at_X4_isOfKind_5 h1 (by omega) (by omega) e ?_
        refine E_istore_n (L2 := [some (.ref b), some (.int (nI x)), some (.int (nI 0)), some (.int (nI 4)), none]) at_X4_isOfKind_6 rfl ?_
        refine E_iconst (x := nI 0) at_X4_isOfKind_7 (by decide) ?_
        refine E_istore (L2 := [some (.ref b), some (.int (nI x)), some (.int (nI 0)), some (.int (nI 4)), some (.int (nI 0))]) at_X4_isOfKind_8 rfl ?_
        refine E_iload at_X4_isOfKind_10 rfl ?_
        refine E_bipush (x := nI 7) at_X4_isOfKind_12 (by decide) ?_
        refine E_ic (t := 41) (b := false) at_X4_isOfKind_14 rfl (by decide) ?_
        refine E_iload_n at_X4_isOfKind_17 rfl ?_
        refine E_iload_n at_X4_isOfKind_18 rfl ?_
        refine E_ic (t := 41) (b := false) at_X4_isOfKind_19 rfl (by decide) ?_
        refine E_iload_n at_X4_isOfKind_22 rfl ?_
        have e1 : Ev ab_Z0 1 46 [.int (nI 4)] cs (some (.int (nI 1)), cs) := by
          refine Ef.in (md := mX4_isKind) (L := [some (.int (nI 4))]) rfl (Nat.le_of_ble_eq_true rfl) rfl ?_
          refine E_iload_n at_X4_isKind_0 rfl ?_
          refine E_if (t := 14) (b := false) at_X4_isKind_1 rfl (by decide) ?_
          refine E_iload_n at_X4_isKind_4 rfl ?_
          refine E_bipush (x := nI 7) at_X4_isKind_5 (by decide) ?_
          refine E_ic (t := 14) (b := false) at_X4_isKind_7 rfl (by decide) ?_
          refine E_iconst (x := nI 1) at_X4_isKind_10 (by decide) ?_
          refine E_goto (t := 15) at_X4_isKind_11 rfl ?_
          exact E_iret at_X4_isKind_15 rfl
        refine E_callS (v := some (.int (nI 1))) (As := [.int (nI 4)]) (r0 := []) (cs2 := cs) at_X4_isOfKind_23 rfl rfl (Nat.le_of_ble_eq_true rfl) rfl e1 (by decide) rfl ?_
        refine E_if (t := 41) (b := false) at_X4_isOfKind_26 rfl (by decide) ?_
        refine E_getstatic (t := 1000000) at_X4_isOfKind_29 rfl ?_
        refine E_iload_n at_X4_isOfKind_32 rfl ?_
        refine E_tload (x := nI 0) (j := 4) (t := 0) at_X4_isOfKind_33 hN rfl (by decide) rfl (by decide) (by decide) rfl ?_
        refine E_istore_n (L2 := [some (.ref b), some (.int (nI x)), some (.int (nI 0)), some (.int (nI 0)), some (.int (nI 0))]) at_X4_isOfKind_34 rfl ?_
        refine E_iinc (y := nI 1) (L2 := [some (.ref b), some (.int (nI x)), some (.int (nI 0)), some (.int (nI 0)), some (.int (nI 1))]) at_X4_isOfKind_35 rfl (by decide) rfl ?_
        refine E_goto (t := 10) at_X4_isOfKind_38 rfl ?_
        refine E_iload at_X4_isOfKind_10 rfl ?_
        refine E_bipush (x := nI 7) at_X4_isOfKind_12 (by decide) ?_
        refine E_ic (t := 41) (b := false) at_X4_isOfKind_14 rfl (by decide) ?_
        refine E_iload_n at_X4_isOfKind_17 rfl ?_
        refine E_iload_n at_X4_isOfKind_18 rfl ?_
        refine E_ic (t := 41) (b := true) at_X4_isOfKind_19 rfl (by decide) ?_
        refine E_iload_n at_X4_isOfKind_41 rfl ?_
        refine E_iload_n at_X4_isOfKind_42 rfl ?_
        refine E_ic (t := 50) (b := false) at_X4_isOfKind_43 rfl (by decide) ?_
        refine E_iconst (x := nI 1) at_X4_isOfKind_46 (by decide) ?_
        refine E_goto (t := 51) at_X4_isOfKind_47 rfl ?_
        exact E_iret at_X4_isOfKind_51 rfl
      · rw [show qOf 4 w = 0 from (by first | exact if_pos (by omega) | exact if_neg (by omega))]
        refine Ef.in (md := mX4_isOfKind) (L := [some (.ref b), some (.int (nI x)), some (.int (nI w)), none, none]) rfl (Nat.le_of_ble_eq_true rfl) rfl ?_
        refine E_aload_n at_X4_isOfKind_0 rfl ?_
        refine E_getfield (v := .ref (b + 1)) at_X4_isOfKind_1 h0 rfl (by decide) rfl ?_
        refine E_iload_n at_X4_isOfKind_4 rfl ?_
        refine E_ialN (l := qK s) (v := 4) at_X4_isOfKind_5 h1 (by omega) (by omega) e ?_
        refine E_istore_n (L2 := [some (.ref b), some (.int (nI x)), some (.int (nI w)), some (.int (nI 4)), none]) at_X4_isOfKind_6 rfl ?_
        refine E_iconst (x := nI 0) at_X4_isOfKind_7 (by decide) ?_
        refine E_istore (L2 := [some (.ref b), some (.int (nI x)), some (.int (nI w)), some (.int (nI 4)), some (.int (nI 0))]) at_X4_isOfKind_8 rfl ?_
        refine E_iload at_X4_isOfKind_10 rfl ?_
        refine E_bipush (x := nI 7) at_X4_isOfKind_12 (by decide) ?_
        refine E_ic (t := 41) (b := false) at_X4_isOfKind_14 rfl (by decide) ?_
        refine E_iload_n at_X4_isOfKind_17 rfl ?_
        refine E_iload_n at_X4_isOfKind_18 rfl ?_
        refine E_ic (t := 41) (b := false) at_X4_isOfKind_19 rfl ((cn_eq (nI_toInt (by omega)) (nI_toInt (by omega))).trans (decide_eq_false (by omega))) ?_
        refine E_iload_n at_X4_isOfKind_22 rfl ?_
        have e1 : Ev ab_Z0 1 46 [.int (nI 4)] cs (some (.int (nI 1)), cs) := by
          refine Ef.in (md := mX4_isKind) (L := [some (.int (nI 4))]) rfl (Nat.le_of_ble_eq_true rfl) rfl ?_
          refine E_iload_n at_X4_isKind_0 rfl ?_
          refine E_if (t := 14) (b := false) at_X4_isKind_1 rfl (by decide) ?_
          refine E_iload_n at_X4_isKind_4 rfl ?_
          refine E_bipush (x := nI 7) at_X4_isKind_5 (by decide) ?_
          refine E_ic (t := 14) (b := false) at_X4_isKind_7 rfl (by decide) ?_
          refine E_iconst (x := nI 1) at_X4_isKind_10 (by decide) ?_
          refine E_goto (t := 15) at_X4_isKind_11 rfl ?_
          exact E_iret at_X4_isKind_15 rfl
        refine E_callS (v := some (.int (nI 1))) (As := [.int (nI 4)]) (r0 := []) (cs2 := cs) at_X4_isOfKind_23 rfl rfl (Nat.le_of_ble_eq_true rfl) rfl e1 (by decide) rfl ?_
        refine E_if (t := 41) (b := false) at_X4_isOfKind_26 rfl (by decide) ?_
        refine E_getstatic (t := 1000000) at_X4_isOfKind_29 rfl ?_
        refine E_iload_n at_X4_isOfKind_32 rfl ?_
        refine E_tload (x := nI 0) (j := 4) (t := 0) at_X4_isOfKind_33 hN rfl (by decide) rfl (by decide) (by decide) rfl ?_
        refine E_istore_n (L2 := [some (.ref b), some (.int (nI x)), some (.int (nI w)), some (.int (nI 0)), some (.int (nI 0))]) at_X4_isOfKind_34 rfl ?_
        refine E_iinc (y := nI 1) (L2 := [some (.ref b), some (.int (nI x)), some (.int (nI w)), some (.int (nI 0)), some (.int (nI 1))]) at_X4_isOfKind_35 rfl (by decide) rfl ?_
        refine E_goto (t := 10) at_X4_isOfKind_38 rfl ?_
        refine E_iload at_X4_isOfKind_10 rfl ?_
        refine E_bipush (x := nI 7) at_X4_isOfKind_12 (by decide) ?_
        refine E_ic (t := 41) (b := false) at_X4_isOfKind_14 rfl (by decide) ?_
        refine E_iload_n at_X4_isOfKind_17 rfl ?_
        refine E_iload_n at_X4_isOfKind_18 rfl ?_
        refine E_ic (t := 41) (b := false) at_X4_isOfKind_19 rfl ((cn_eq (nI_toInt (by omega)) (nI_toInt (by omega))).trans (decide_eq_false (by omega))) ?_
        refine E_iload_n at_X4_isOfKind_22 rfl ?_
        have e2 : Ev ab_Z0 1 46 [.int (nI 0)] cs (some (.int (nI 1)), cs) := by
          refine Ef.in (md := mX4_isKind) (L := [some (.int (nI 0))]) rfl (Nat.le_of_ble_eq_true rfl) rfl ?_
          refine E_iload_n at_X4_isKind_0 rfl ?_
          refine E_if (t := 14) (b := false) at_X4_isKind_1 rfl (by decide) ?_
          refine E_iload_n at_X4_isKind_4 rfl ?_
          refine E_bipush (x := nI 7) at_X4_isKind_5 (by decide) ?_
          refine E_ic (t := 14) (b := false) at_X4_isKind_7 rfl (by decide) ?_
          refine E_iconst (x := nI 1) at_X4_isKind_10 (by decide) ?_
          refine E_goto (t := 15) at_X4_isKind_11 rfl ?_
          exact E_iret at_X4_isKind_15 rfl
        refine E_callS (v := some (.int (nI 1))) (As := [.int (nI 0)]) (r0 := []) (cs2 := cs) at_X4_isOfKind_23 rfl rfl (Nat.le_of_ble_eq_true rfl) rfl e2 (by decide) rfl ?_
        refine E_if (t := 41) (b := false) at_X4_isOfKind_26 rfl (by decide) ?_
        refine E_getstatic (t := 1000000) at_X4_isOfKind_29 rfl ?_
        refine E_iload_n at_X4_isOfKind_32 rfl ?_
        refine E_tload (x := (-1)) (j := 0) (t := 0) at_X4_isOfKind_33 hN rfl (by decide) rfl (by decide) (by decide) rfl ?_
        refine E_istore_n (L2 := [some (.ref b), some (.int (nI x)), some (.int (nI w)), some (.int (-1)), some (.int (nI 1))]) at_X4_isOfKind_34 rfl ?_
        refine E_iinc (y := nI 2) (L2 := [some (.ref b), some (.int (nI x)), some (.int (nI w)), some (.int (-1)), some (.int (nI 2))]) at_X4_isOfKind_35 rfl (by decide) rfl ?_
        refine E_goto (t := 10) at_X4_isOfKind_38 rfl ?_
        refine E_iload at_X4_isOfKind_10 rfl ?_
        refine E_bipush (x := nI 7) at_X4_isOfKind_12 (by decide) ?_
        refine E_ic (t := 41) (b := false) at_X4_isOfKind_14 rfl (by decide) ?_
        refine E_iload_n at_X4_isOfKind_17 rfl ?_
        refine E_iload_n at_X4_isOfKind_18 rfl ?_
        refine E_ic (t := 41) (b := false) at_X4_isOfKind_19 rfl ((cn_eq (by decide : (-1 : Int32).toInt = -1) (nI_toInt (by omega))).trans (decide_eq_false (by omega))) ?_
        refine E_iload_n at_X4_isOfKind_22 rfl ?_
        have e3 : Ev ab_Z0 1 46 [.int (-1)] cs (some (.int (nI 0)), cs) := by
          refine Ef.in (md := mX4_isKind) (L := [some (.int (-1))]) rfl (Nat.le_of_ble_eq_true rfl) rfl ?_
          refine E_iload_n at_X4_isKind_0 rfl ?_
          refine E_if (t := 14) (b := true) at_X4_isKind_1 rfl (by decide) ?_
          refine E_iconst (x := nI 0) at_X4_isKind_14 (by decide) ?_
          exact E_iret at_X4_isKind_15 rfl
        refine E_callS (v := some (.int (nI 0))) (As := [.int (-1)]) (r0 := []) (cs2 := cs) at_X4_isOfKind_23 rfl rfl (Nat.le_of_ble_eq_true rfl) rfl e3 (by decide) rfl ?_
        refine E_if (t := 41) (b := true) at_X4_isOfKind_26 rfl (by decide) ?_
        refine E_iload_n at_X4_isOfKind_41 rfl ?_
        refine E_iload_n at_X4_isOfKind_42 rfl ?_
        refine E_ic (t := 50) (b := true) at_X4_isOfKind_43 rfl ((cn_ne (by decide : (-1 : Int32).toInt = -1) (nI_toInt (by omega))).trans (decide_eq_true (by omega))) ?_
        refine E_iconst (x := nI 0) at_X4_isOfKind_50 (by decide) ?_
        exact E_iret at_X4_isOfKind_51 rfl
  · by_cases f1 : w = 5
    · subst f1
      rw [show qOf 5 5 = 1 from (by first | exact if_pos (by omega) | exact if_neg (by omega))]
      refine Ef.in (md := mX4_isOfKind) (L := [some (.ref b), some (.int (nI x)), some (.int (nI 5)), none, none]) rfl (Nat.le_of_ble_eq_true rfl) rfl ?_
      refine E_aload_n at_X4_isOfKind_0 rfl ?_
      refine E_getfield (v := .ref (b + 1)) at_X4_isOfKind_1 h0 rfl (by decide) rfl ?_
      refine E_iload_n at_X4_isOfKind_4 rfl ?_
      refine E_ialN (l := qK s) (v := 5) at_X4_isOfKind_5 h1 (by omega) (by omega) e ?_
      refine E_istore_n (L2 := [some (.ref b), some (.int (nI x)), some (.int (nI 5)), some (.int (nI 5)), none]) at_X4_isOfKind_6 rfl ?_
      refine E_iconst (x := nI 0) at_X4_isOfKind_7 (by decide) ?_
      refine E_istore (L2 := [some (.ref b), some (.int (nI x)), some (.int (nI 5)), some (.int (nI 5)), some (.int (nI 0))]) at_X4_isOfKind_8 rfl ?_
      refine E_iload at_X4_isOfKind_10 rfl ?_
      refine E_bipush (x := nI 7) at_X4_isOfKind_12 (by decide) ?_
      refine E_ic (t := 41) (b := false) at_X4_isOfKind_14 rfl (by decide) ?_
      refine E_iload_n at_X4_isOfKind_17 rfl ?_
      refine E_iload_n at_X4_isOfKind_18 rfl ?_
      refine E_ic (t := 41) (b := true) at_X4_isOfKind_19 rfl (by decide) ?_
      refine E_iload_n at_X4_isOfKind_41 rfl ?_
      refine E_iload_n at_X4_isOfKind_42 rfl ?_
      refine E_ic (t := 50) (b := false) at_X4_isOfKind_43 rfl (by decide) ?_
      refine E_iconst (x := nI 1) at_X4_isOfKind_46 (by decide) ?_
      refine E_goto (t := 51) at_X4_isOfKind_47 rfl ?_
      exact E_iret at_X4_isOfKind_51 rfl
    · by_cases f2 : w = 2
      · subst f2
        rw [show qOf 5 2 = 1 from (by first | exact if_pos (by omega) | exact if_neg (by omega))]
        refine Ef.in (md := mX4_isOfKind) (L := [some (.ref b), some (.int (nI x)), some (.int (nI 2)), none, none]) rfl (Nat.le_of_ble_eq_true rfl) rfl ?_
        refine E_aload_n at_X4_isOfKind_0 rfl ?_
        refine E_getfield (v := .ref (b + 1)) at_X4_isOfKind_1 h0 rfl (by decide) rfl ?_
        refine E_iload_n at_X4_isOfKind_4 rfl ?_
        refine E_ialN (l := qK s) (v := 5) at_X4_isOfKind_5 h1 (by omega) (by omega) e ?_
        refine E_istore_n (L2 := [some (.ref b), some (.int (nI x)), some (.int (nI 2)), some (.int (nI 5)), none]) at_X4_isOfKind_6 rfl ?_
        refine E_iconst (x := nI 0) at_X4_isOfKind_7 (by decide) ?_
        refine E_istore (L2 := [some (.ref b), some (.int (nI x)), some (.int (nI 2)), some (.int (nI 5)), some (.int (nI 0))]) at_X4_isOfKind_8 rfl ?_
        refine E_iload at_X4_isOfKind_10 rfl ?_
        refine E_bipush (x := nI 7) at_X4_isOfKind_12 (by decide) ?_
        refine E_ic (t := 41) (b := false) at_X4_isOfKind_14 rfl (by decide) ?_
        refine E_iload_n at_X4_isOfKind_17 rfl ?_
        refine E_iload_n at_X4_isOfKind_18 rfl ?_
        refine E_ic (t := 41) (b := false) at_X4_isOfKind_19 rfl (by decide) ?_
        refine E_iload_n at_X4_isOfKind_22 rfl ?_
        have e1 : Ev ab_Z0 1 46 [.int (nI 5)] cs (some (.int (nI 1)), cs) := by
          refine Ef.in (md := mX4_isKind) (L := [some (.int (nI 5))]) rfl (Nat.le_of_ble_eq_true rfl) rfl ?_
          refine E_iload_n at_X4_isKind_0 rfl ?_
          refine E_if (t := 14) (b := false) at_X4_isKind_1 rfl (by decide) ?_
          refine E_iload_n at_X4_isKind_4 rfl ?_
          refine E_bipush (x := nI 7) at_X4_isKind_5 (by decide) ?_
          refine E_ic (t := 14) (b := false) at_X4_isKind_7 rfl (by decide) ?_
          refine E_iconst (x := nI 1) at_X4_isKind_10 (by decide) ?_
          refine E_goto (t := 15) at_X4_isKind_11 rfl ?_
          exact E_iret at_X4_isKind_15 rfl
        refine E_callS (v := some (.int (nI 1))) (As := [.int (nI 5)]) (r0 := []) (cs2 := cs) at_X4_isOfKind_23 rfl rfl (Nat.le_of_ble_eq_true rfl) rfl e1 (by decide) rfl ?_
        refine E_if (t := 41) (b := false) at_X4_isOfKind_26 rfl (by decide) ?_
        refine E_getstatic (t := 1000000) at_X4_isOfKind_29 rfl ?_
        refine E_iload_n at_X4_isOfKind_32 rfl ?_
        refine E_tload (x := nI 2) (j := 5) (t := 0) at_X4_isOfKind_33 hN rfl (by decide) rfl (by decide) (by decide) rfl ?_
        refine E_istore_n (L2 := [some (.ref b), some (.int (nI x)), some (.int (nI 2)), some (.int (nI 2)), some (.int (nI 0))]) at_X4_isOfKind_34 rfl ?_
        refine E_iinc (y := nI 1) (L2 := [some (.ref b), some (.int (nI x)), some (.int (nI 2)), some (.int (nI 2)), some (.int (nI 1))]) at_X4_isOfKind_35 rfl (by decide) rfl ?_
        refine E_goto (t := 10) at_X4_isOfKind_38 rfl ?_
        refine E_iload at_X4_isOfKind_10 rfl ?_
        refine E_bipush (x := nI 7) at_X4_isOfKind_12 (by decide) ?_
        refine E_ic (t := 41) (b := false) at_X4_isOfKind_14 rfl (by decide) ?_
        refine E_iload_n at_X4_isOfKind_17 rfl ?_
        refine E_iload_n at_X4_isOfKind_18 rfl ?_
        refine E_ic (t := 41) (b := true) at_X4_isOfKind_19 rfl (by decide) ?_
        refine E_iload_n at_X4_isOfKind_41 rfl ?_
        refine E_iload_n at_X4_isOfKind_42 rfl ?_
        refine E_ic (t := 50) (b := false) at_X4_isOfKind_43 rfl (by decide) ?_
        refine E_iconst (x := nI 1) at_X4_isOfKind_46 (by decide) ?_
        refine E_goto (t := 51) at_X4_isOfKind_47 rfl ?_
        exact E_iret at_X4_isOfKind_51 rfl
      · by_cases f3 : w = 0
        · subst f3
          rw [show qOf 5 0 = 1 from (by first | exact if_pos (by omega) | exact if_neg (by omega))]
          refine Ef.in (md := mX4_isOfKind) (L := [some (.ref b), some (.int (nI x)), some (.int (nI 0)), none, none]) rfl (Nat.le_of_ble_eq_true rfl) rfl ?_
          refine E_aload_n at_X4_isOfKind_0 rfl ?_
          refine E_getfield (v := .ref (b + 1)) at_X4_isOfKind_1 h0 rfl (by decide) rfl ?_
          refine E_iload_n at_X4_isOfKind_4 rfl ?_
          refine E_ialN (l := qK s) (v := 5) at_X4_isOfKind_5 h1 (by omega) (by omega) e ?_
          refine E_istore_n (L2 := [some (.ref b), some (.int (nI x)), some (.int (nI 0)), some (.int (nI 5)), none]) at_X4_isOfKind_6 rfl ?_
          refine E_iconst (x := nI 0) at_X4_isOfKind_7 (by decide) ?_
          refine E_istore (L2 := [some (.ref b), some (.int (nI x)), some (.int (nI 0)), some (.int (nI 5)), some (.int (nI 0))]) at_X4_isOfKind_8 rfl ?_
          refine E_iload at_X4_isOfKind_10 rfl ?_
          refine E_bipush (x := nI 7) at_X4_isOfKind_12 (by decide) ?_
          refine E_ic (t := 41) (b := false) at_X4_isOfKind_14 rfl (by decide) ?_
          refine E_iload_n at_X4_isOfKind_17 rfl ?_
          refine E_iload_n at_X4_isOfKind_18 rfl ?_
          refine E_ic (t := 41) (b := false) at_X4_isOfKind_19 rfl (by decide) ?_
          refine E_iload_n at_X4_isOfKind_22 rfl ?_
          have e1 : Ev ab_Z0 1 46 [.int (nI 5)] cs (some (.int (nI 1)), cs) := by
            refine Ef.in (md := mX4_isKind) (L := [some (.int (nI 5))]) rfl (Nat.le_of_ble_eq_true rfl) rfl ?_
            refine E_iload_n at_X4_isKind_0 rfl ?_
            refine E_if (t := 14) (b := false) at_X4_isKind_1 rfl (by decide) ?_
            refine E_iload_n at_X4_isKind_4 rfl ?_
            refine E_bipush (x := nI 7) at_X4_isKind_5 (by decide) ?_
            refine E_ic (t := 14) (b := false) at_X4_isKind_7 rfl (by decide) ?_
            refine E_iconst (x := nI 1) at_X4_isKind_10 (by decide) ?_
            refine E_goto (t := 15) at_X4_isKind_11 rfl ?_
            exact E_iret at_X4_isKind_15 rfl
          refine E_callS (v := some (.int (nI 1))) (As := [.int (nI 5)]) (r0 := []) (cs2 := cs) at_X4_isOfKind_23 rfl rfl (Nat.le_of_ble_eq_true rfl) rfl e1 (by decide) rfl ?_
          refine E_if (t := 41) (b := false) at_X4_isOfKind_26 rfl (by decide) ?_
          refine E_getstatic (t := 1000000) at_X4_isOfKind_29 rfl ?_
          refine E_iload_n at_X4_isOfKind_32 rfl ?_
          refine E_tload (x := nI 2) (j := 5) (t := 0) at_X4_isOfKind_33 hN rfl (by decide) rfl (by decide) (by decide) rfl ?_
          refine E_istore_n (L2 := [some (.ref b), some (.int (nI x)), some (.int (nI 0)), some (.int (nI 2)), some (.int (nI 0))]) at_X4_isOfKind_34 rfl ?_
          refine E_iinc (y := nI 1) (L2 := [some (.ref b), some (.int (nI x)), some (.int (nI 0)), some (.int (nI 2)), some (.int (nI 1))]) at_X4_isOfKind_35 rfl (by decide) rfl ?_
          refine E_goto (t := 10) at_X4_isOfKind_38 rfl ?_
          refine E_iload at_X4_isOfKind_10 rfl ?_
          refine E_bipush (x := nI 7) at_X4_isOfKind_12 (by decide) ?_
          refine E_ic (t := 41) (b := false) at_X4_isOfKind_14 rfl (by decide) ?_
          refine E_iload_n at_X4_isOfKind_17 rfl ?_
          refine E_iload_n at_X4_isOfKind_18 rfl ?_
          refine E_ic (t := 41) (b := false) at_X4_isOfKind_19 rfl (by decide) ?_
          refine E_iload_n at_X4_isOfKind_22 rfl ?_
          have e2 : Ev ab_Z0 1 46 [.int (nI 2)] cs (some (.int (nI 1)), cs) := by
            refine Ef.in (md := mX4_isKind) (L := [some (.int (nI 2))]) rfl (Nat.le_of_ble_eq_true rfl) rfl ?_
            refine E_iload_n at_X4_isKind_0 rfl ?_
            refine E_if (t := 14) (b := false) at_X4_isKind_1 rfl (by decide) ?_
            refine E_iload_n at_X4_isKind_4 rfl ?_
            refine E_bipush (x := nI 7) at_X4_isKind_5 (by decide) ?_
            refine E_ic (t := 14) (b := false) at_X4_isKind_7 rfl (by decide) ?_
            refine E_iconst (x := nI 1) at_X4_isKind_10 (by decide) ?_
            refine E_goto (t := 15) at_X4_isKind_11 rfl ?_
            exact E_iret at_X4_isKind_15 rfl
          refine E_callS (v := some (.int (nI 1))) (As := [.int (nI 2)]) (r0 := []) (cs2 := cs) at_X4_isOfKind_23 rfl rfl (Nat.le_of_ble_eq_true rfl) rfl e2 (by decide) rfl ?_
          refine E_if (t := 41) (b := false) at_X4_isOfKind_26 rfl (by decide) ?_
          refine E_getstatic (t := 1000000) at_X4_isOfKind_29 rfl ?_
          refine E_iload_n at_X4_isOfKind_32 rfl ?_
          refine E_tload (x := nI 0) (j := 2) (t := 0) at_X4_isOfKind_33 hN rfl (by decide) rfl (by decide) (by decide) rfl ?_
          refine E_istore_n (L2 := [some (.ref b), some (.int (nI x)), some (.int (nI 0)), some (.int (nI 0)), some (.int (nI 1))]) at_X4_isOfKind_34 rfl ?_
          refine E_iinc (y := nI 2) (L2 := [some (.ref b), some (.int (nI x)), some (.int (nI 0)), some (.int (nI 0)), some (.int (nI 2))]) at_X4_isOfKind_35 rfl (by decide) rfl ?_
          refine E_goto (t := 10) at_X4_isOfKind_38 rfl ?_
          refine E_iload at_X4_isOfKind_10 rfl ?_
          refine E_bipush (x := nI 7) at_X4_isOfKind_12 (by decide) ?_
          refine E_ic (t := 41) (b := false) at_X4_isOfKind_14 rfl (by decide) ?_
          refine E_iload_n at_X4_isOfKind_17 rfl ?_
          refine E_iload_n at_X4_isOfKind_18 rfl ?_
          refine E_ic (t := 41) (b := true) at_X4_isOfKind_19 rfl (by decide) ?_
          refine E_iload_n at_X4_isOfKind_41 rfl ?_
          refine E_iload_n at_X4_isOfKind_42 rfl ?_
          refine E_ic (t := 50) (b := false) at_X4_isOfKind_43 rfl (by decide) ?_
          refine E_iconst (x := nI 1) at_X4_isOfKind_46 (by decide) ?_
          refine E_goto (t := 51) at_X4_isOfKind_47 rfl ?_
          exact E_iret at_X4_isOfKind_51 rfl
        · rw [show qOf 5 w = 0 from (by first | exact if_pos (by omega) | exact if_neg (by omega))]
          refine Ef.in (md := mX4_isOfKind) (L := [some (.ref b), some (.int (nI x)), some (.int (nI w)), none, none]) rfl (Nat.le_of_ble_eq_true rfl) rfl ?_
          refine E_aload_n at_X4_isOfKind_0 rfl ?_
          refine E_getfield (v := .ref (b + 1)) at_X4_isOfKind_1 h0 rfl (by decide) rfl ?_
          refine E_iload_n at_X4_isOfKind_4 rfl ?_
          refine E_ialN (l := qK s) (v := 5) at_X4_isOfKind_5 h1 (by omega) (by omega) e ?_
          refine E_istore_n (L2 := [some (.ref b), some (.int (nI x)), some (.int (nI w)), some (.int (nI 5)), none]) at_X4_isOfKind_6 rfl ?_
          refine E_iconst (x := nI 0) at_X4_isOfKind_7 (by decide) ?_
          refine E_istore (L2 := [some (.ref b), some (.int (nI x)), some (.int (nI w)), some (.int (nI 5)), some (.int (nI 0))]) at_X4_isOfKind_8 rfl ?_
          refine E_iload at_X4_isOfKind_10 rfl ?_
          refine E_bipush (x := nI 7) at_X4_isOfKind_12 (by decide) ?_
          refine E_ic (t := 41) (b := false) at_X4_isOfKind_14 rfl (by decide) ?_
          refine E_iload_n at_X4_isOfKind_17 rfl ?_
          refine E_iload_n at_X4_isOfKind_18 rfl ?_
          refine E_ic (t := 41) (b := false) at_X4_isOfKind_19 rfl ((cn_eq (nI_toInt (by omega)) (nI_toInt (by omega))).trans (decide_eq_false (by omega))) ?_
          refine E_iload_n at_X4_isOfKind_22 rfl ?_
          have e1 : Ev ab_Z0 1 46 [.int (nI 5)] cs (some (.int (nI 1)), cs) := by
            refine Ef.in (md := mX4_isKind) (L := [some (.int (nI 5))]) rfl (Nat.le_of_ble_eq_true rfl) rfl ?_
            refine E_iload_n at_X4_isKind_0 rfl ?_
            refine E_if (t := 14) (b := false) at_X4_isKind_1 rfl (by decide) ?_
            refine E_iload_n at_X4_isKind_4 rfl ?_
            refine E_bipush (x := nI 7) at_X4_isKind_5 (by decide) ?_
            refine E_ic (t := 14) (b := false) at_X4_isKind_7 rfl (by decide) ?_
            refine E_iconst (x := nI 1) at_X4_isKind_10 (by decide) ?_
            refine E_goto (t := 15) at_X4_isKind_11 rfl ?_
            exact E_iret at_X4_isKind_15 rfl
          refine E_callS (v := some (.int (nI 1))) (As := [.int (nI 5)]) (r0 := []) (cs2 := cs) at_X4_isOfKind_23 rfl rfl (Nat.le_of_ble_eq_true rfl) rfl e1 (by decide) rfl ?_
          refine E_if (t := 41) (b := false) at_X4_isOfKind_26 rfl (by decide) ?_
          refine E_getstatic (t := 1000000) at_X4_isOfKind_29 rfl ?_
          refine E_iload_n at_X4_isOfKind_32 rfl ?_
          refine E_tload (x := nI 2) (j := 5) (t := 0) at_X4_isOfKind_33 hN rfl (by decide) rfl (by decide) (by decide) rfl ?_
          refine E_istore_n (L2 := [some (.ref b), some (.int (nI x)), some (.int (nI w)), some (.int (nI 2)), some (.int (nI 0))]) at_X4_isOfKind_34 rfl ?_
          refine E_iinc (y := nI 1) (L2 := [some (.ref b), some (.int (nI x)), some (.int (nI w)), some (.int (nI 2)), some (.int (nI 1))]) at_X4_isOfKind_35 rfl (by decide) rfl ?_
          refine E_goto (t := 10) at_X4_isOfKind_38 rfl ?_
          refine E_iload at_X4_isOfKind_10 rfl ?_
          refine E_bipush (x := nI 7) at_X4_isOfKind_12 (by decide) ?_
          refine E_ic (t := 41) (b := false) at_X4_isOfKind_14 rfl (by decide) ?_
          refine E_iload_n at_X4_isOfKind_17 rfl ?_
          refine E_iload_n at_X4_isOfKind_18 rfl ?_
          refine E_ic (t := 41) (b := false) at_X4_isOfKind_19 rfl ((cn_eq (nI_toInt (by omega)) (nI_toInt (by omega))).trans (decide_eq_false (by omega))) ?_
          refine E_iload_n at_X4_isOfKind_22 rfl ?_
          have e2 : Ev ab_Z0 1 46 [.int (nI 2)] cs (some (.int (nI 1)), cs) := by
            refine Ef.in (md := mX4_isKind) (L := [some (.int (nI 2))]) rfl (Nat.le_of_ble_eq_true rfl) rfl ?_
            refine E_iload_n at_X4_isKind_0 rfl ?_
            refine E_if (t := 14) (b := false) at_X4_isKind_1 rfl (by decide) ?_
            refine E_iload_n at_X4_isKind_4 rfl ?_
            refine E_bipush (x := nI 7) at_X4_isKind_5 (by decide) ?_
            refine E_ic (t := 14) (b := false) at_X4_isKind_7 rfl (by decide) ?_
            refine E_iconst (x := nI 1) at_X4_isKind_10 (by decide) ?_
            refine E_goto (t := 15) at_X4_isKind_11 rfl ?_
            exact E_iret at_X4_isKind_15 rfl
          refine E_callS (v := some (.int (nI 1))) (As := [.int (nI 2)]) (r0 := []) (cs2 := cs) at_X4_isOfKind_23 rfl rfl (Nat.le_of_ble_eq_true rfl) rfl e2 (by decide) rfl ?_
          refine E_if (t := 41) (b := false) at_X4_isOfKind_26 rfl (by decide) ?_
          refine E_getstatic (t := 1000000) at_X4_isOfKind_29 rfl ?_
          refine E_iload_n at_X4_isOfKind_32 rfl ?_
          refine E_tload (x := nI 0) (j := 2) (t := 0) at_X4_isOfKind_33 hN rfl (by decide) rfl (by decide) (by decide) rfl ?_
          refine E_istore_n (L2 := [some (.ref b), some (.int (nI x)), some (.int (nI w)), some (.int (nI 0)), some (.int (nI 1))]) at_X4_isOfKind_34 rfl ?_
          refine E_iinc (y := nI 2) (L2 := [some (.ref b), some (.int (nI x)), some (.int (nI w)), some (.int (nI 0)), some (.int (nI 2))]) at_X4_isOfKind_35 rfl (by decide) rfl ?_
          refine E_goto (t := 10) at_X4_isOfKind_38 rfl ?_
          refine E_iload at_X4_isOfKind_10 rfl ?_
          refine E_bipush (x := nI 7) at_X4_isOfKind_12 (by decide) ?_
          refine E_ic (t := 41) (b := false) at_X4_isOfKind_14 rfl (by decide) ?_
          refine E_iload_n at_X4_isOfKind_17 rfl ?_
          refine E_iload_n at_X4_isOfKind_18 rfl ?_
          refine E_ic (t := 41) (b := false) at_X4_isOfKind_19 rfl ((cn_eq (nI_toInt (by omega)) (nI_toInt (by omega))).trans (decide_eq_false (by omega))) ?_
          refine E_iload_n at_X4_isOfKind_22 rfl ?_
          have e3 : Ev ab_Z0 1 46 [.int (nI 0)] cs (some (.int (nI 1)), cs) := by
            refine Ef.in (md := mX4_isKind) (L := [some (.int (nI 0))]) rfl (Nat.le_of_ble_eq_true rfl) rfl ?_
            refine E_iload_n at_X4_isKind_0 rfl ?_
            refine E_if (t := 14) (b := false) at_X4_isKind_1 rfl (by decide) ?_
            refine E_iload_n at_X4_isKind_4 rfl ?_
            refine E_bipush (x := nI 7) at_X4_isKind_5 (by decide) ?_
            refine E_ic (t := 14) (b := false) at_X4_isKind_7 rfl (by decide) ?_
            refine E_iconst (x := nI 1) at_X4_isKind_10 (by decide) ?_
            refine E_goto (t := 15) at_X4_isKind_11 rfl ?_
            exact E_iret at_X4_isKind_15 rfl
          refine E_callS (v := some (.int (nI 1))) (As := [.int (nI 0)]) (r0 := []) (cs2 := cs) at_X4_isOfKind_23 rfl rfl (Nat.le_of_ble_eq_true rfl) rfl e3 (by decide) rfl ?_
          refine E_if (t := 41) (b := false) at_X4_isOfKind_26 rfl (by decide) ?_
          refine E_getstatic (t := 1000000) at_X4_isOfKind_29 rfl ?_
          refine E_iload_n at_X4_isOfKind_32 rfl ?_
          refine E_tload (x := (-1)) (j := 0) (t := 0) at_X4_isOfKind_33 hN rfl (by decide) rfl (by decide) (by decide) rfl ?_
          refine E_istore_n (L2 := [some (.ref b), some (.int (nI x)), some (.int (nI w)), some (.int (-1)), some (.int (nI 2))]) at_X4_isOfKind_34 rfl ?_
          refine E_iinc (y := nI 3) (L2 := [some (.ref b), some (.int (nI x)), some (.int (nI w)), some (.int (-1)), some (.int (nI 3))]) at_X4_isOfKind_35 rfl (by decide) rfl ?_
          refine E_goto (t := 10) at_X4_isOfKind_38 rfl ?_
          refine E_iload at_X4_isOfKind_10 rfl ?_
          refine E_bipush (x := nI 7) at_X4_isOfKind_12 (by decide) ?_
          refine E_ic (t := 41) (b := false) at_X4_isOfKind_14 rfl (by decide) ?_
          refine E_iload_n at_X4_isOfKind_17 rfl ?_
          refine E_iload_n at_X4_isOfKind_18 rfl ?_
          refine E_ic (t := 41) (b := false) at_X4_isOfKind_19 rfl ((cn_eq (by decide : (-1 : Int32).toInt = -1) (nI_toInt (by omega))).trans (decide_eq_false (by omega))) ?_
          refine E_iload_n at_X4_isOfKind_22 rfl ?_
          have e4 : Ev ab_Z0 1 46 [.int (-1)] cs (some (.int (nI 0)), cs) := by
            refine Ef.in (md := mX4_isKind) (L := [some (.int (-1))]) rfl (Nat.le_of_ble_eq_true rfl) rfl ?_
            refine E_iload_n at_X4_isKind_0 rfl ?_
            refine E_if (t := 14) (b := true) at_X4_isKind_1 rfl (by decide) ?_
            refine E_iconst (x := nI 0) at_X4_isKind_14 (by decide) ?_
            exact E_iret at_X4_isKind_15 rfl
          refine E_callS (v := some (.int (nI 0))) (As := [.int (-1)]) (r0 := []) (cs2 := cs) at_X4_isOfKind_23 rfl rfl (Nat.le_of_ble_eq_true rfl) rfl e4 (by decide) rfl ?_
          refine E_if (t := 41) (b := true) at_X4_isOfKind_26 rfl (by decide) ?_
          refine E_iload_n at_X4_isOfKind_41 rfl ?_
          refine E_iload_n at_X4_isOfKind_42 rfl ?_
          refine E_ic (t := 50) (b := true) at_X4_isOfKind_43 rfl ((cn_ne (by decide : (-1 : Int32).toInt = -1) (nI_toInt (by omega))).trans (decide_eq_true (by omega))) ?_
          refine E_iconst (x := nI 0) at_X4_isOfKind_50 (by decide) ?_
          exact E_iret at_X4_isOfKind_51 rfl
  · by_cases f1 : w = 6
    · subst f1
      rw [show qOf 6 6 = 1 from (by first | exact if_pos (by omega) | exact if_neg (by omega))]
      refine Ef.in (md := mX4_isOfKind) (L := [some (.ref b), some (.int (nI x)), some (.int (nI 6)), none, none]) rfl (Nat.le_of_ble_eq_true rfl) rfl ?_
      refine E_aload_n at_X4_isOfKind_0 rfl ?_
      refine E_getfield (v := .ref (b + 1)) at_X4_isOfKind_1 h0 rfl (by decide) rfl ?_
      refine E_iload_n at_X4_isOfKind_4 rfl ?_
      refine E_ialN (l := qK s) (v := 6) at_X4_isOfKind_5 h1 (by omega) (by omega) e ?_
      refine E_istore_n (L2 := [some (.ref b), some (.int (nI x)), some (.int (nI 6)), some (.int (nI 6)), none]) at_X4_isOfKind_6 rfl ?_
      refine E_iconst (x := nI 0) at_X4_isOfKind_7 (by decide) ?_
      refine E_istore (L2 := [some (.ref b), some (.int (nI x)), some (.int (nI 6)), some (.int (nI 6)), some (.int (nI 0))]) at_X4_isOfKind_8 rfl ?_
      refine E_iload at_X4_isOfKind_10 rfl ?_
      refine E_bipush (x := nI 7) at_X4_isOfKind_12 (by decide) ?_
      refine E_ic (t := 41) (b := false) at_X4_isOfKind_14 rfl (by decide) ?_
      refine E_iload_n at_X4_isOfKind_17 rfl ?_
      refine E_iload_n at_X4_isOfKind_18 rfl ?_
      refine E_ic (t := 41) (b := true) at_X4_isOfKind_19 rfl (by decide) ?_
      refine E_iload_n at_X4_isOfKind_41 rfl ?_
      refine E_iload_n at_X4_isOfKind_42 rfl ?_
      refine E_ic (t := 50) (b := false) at_X4_isOfKind_43 rfl (by decide) ?_
      refine E_iconst (x := nI 1) at_X4_isOfKind_46 (by decide) ?_
      refine E_goto (t := 51) at_X4_isOfKind_47 rfl ?_
      exact E_iret at_X4_isOfKind_51 rfl
    · by_cases f2 : w = 4
      · subst f2
        rw [show qOf 6 4 = 1 from (by first | exact if_pos (by omega) | exact if_neg (by omega))]
        refine Ef.in (md := mX4_isOfKind) (L := [some (.ref b), some (.int (nI x)), some (.int (nI 4)), none, none]) rfl (Nat.le_of_ble_eq_true rfl) rfl ?_
        refine E_aload_n at_X4_isOfKind_0 rfl ?_
        refine E_getfield (v := .ref (b + 1)) at_X4_isOfKind_1 h0 rfl (by decide) rfl ?_
        refine E_iload_n at_X4_isOfKind_4 rfl ?_
        refine E_ialN (l := qK s) (v := 6) at_X4_isOfKind_5 h1 (by omega) (by omega) e ?_
        refine E_istore_n (L2 := [some (.ref b), some (.int (nI x)), some (.int (nI 4)), some (.int (nI 6)), none]) at_X4_isOfKind_6 rfl ?_
        refine E_iconst (x := nI 0) at_X4_isOfKind_7 (by decide) ?_
        refine E_istore (L2 := [some (.ref b), some (.int (nI x)), some (.int (nI 4)), some (.int (nI 6)), some (.int (nI 0))]) at_X4_isOfKind_8 rfl ?_
        refine E_iload at_X4_isOfKind_10 rfl ?_
        refine E_bipush (x := nI 7) at_X4_isOfKind_12 (by decide) ?_
        refine E_ic (t := 41) (b := false) at_X4_isOfKind_14 rfl (by decide) ?_
        refine E_iload_n at_X4_isOfKind_17 rfl ?_
        refine E_iload_n at_X4_isOfKind_18 rfl ?_
        refine E_ic (t := 41) (b := false) at_X4_isOfKind_19 rfl (by decide) ?_
        refine E_iload_n at_X4_isOfKind_22 rfl ?_
        have e1 : Ev ab_Z0 1 46 [.int (nI 6)] cs (some (.int (nI 1)), cs) := by
          refine Ef.in (md := mX4_isKind) (L := [some (.int (nI 6))]) rfl (Nat.le_of_ble_eq_true rfl) rfl ?_
          refine E_iload_n at_X4_isKind_0 rfl ?_
          refine E_if (t := 14) (b := false) at_X4_isKind_1 rfl (by decide) ?_
          refine E_iload_n at_X4_isKind_4 rfl ?_
          refine E_bipush (x := nI 7) at_X4_isKind_5 (by decide) ?_
          refine E_ic (t := 14) (b := false) at_X4_isKind_7 rfl (by decide) ?_
          refine E_iconst (x := nI 1) at_X4_isKind_10 (by decide) ?_
          refine E_goto (t := 15) at_X4_isKind_11 rfl ?_
          exact E_iret at_X4_isKind_15 rfl
        refine E_callS (v := some (.int (nI 1))) (As := [.int (nI 6)]) (r0 := []) (cs2 := cs) at_X4_isOfKind_23 rfl rfl (Nat.le_of_ble_eq_true rfl) rfl e1 (by decide) rfl ?_
        refine E_if (t := 41) (b := false) at_X4_isOfKind_26 rfl (by decide) ?_
        refine E_getstatic (t := 1000000) at_X4_isOfKind_29 rfl ?_
        refine E_iload_n at_X4_isOfKind_32 rfl ?_
        refine E_tload (x := nI 4) (j := 6) (t := 0) at_X4_isOfKind_33 hN rfl (by decide) rfl (by decide) (by decide) rfl ?_
        refine E_istore_n (L2 := [some (.ref b), some (.int (nI x)), some (.int (nI 4)), some (.int (nI 4)), some (.int (nI 0))]) at_X4_isOfKind_34 rfl ?_
        refine E_iinc (y := nI 1) (L2 := [some (.ref b), some (.int (nI x)), some (.int (nI 4)), some (.int (nI 4)), some (.int (nI 1))]) at_X4_isOfKind_35 rfl (by decide) rfl ?_
        refine E_goto (t := 10) at_X4_isOfKind_38 rfl ?_
        refine E_iload at_X4_isOfKind_10 rfl ?_
        refine E_bipush (x := nI 7) at_X4_isOfKind_12 (by decide) ?_
        refine E_ic (t := 41) (b := false) at_X4_isOfKind_14 rfl (by decide) ?_
        refine E_iload_n at_X4_isOfKind_17 rfl ?_
        refine E_iload_n at_X4_isOfKind_18 rfl ?_
        refine E_ic (t := 41) (b := true) at_X4_isOfKind_19 rfl (by decide) ?_
        refine E_iload_n at_X4_isOfKind_41 rfl ?_
        refine E_iload_n at_X4_isOfKind_42 rfl ?_
        refine E_ic (t := 50) (b := false) at_X4_isOfKind_43 rfl (by decide) ?_
        refine E_iconst (x := nI 1) at_X4_isOfKind_46 (by decide) ?_
        refine E_goto (t := 51) at_X4_isOfKind_47 rfl ?_
        exact E_iret at_X4_isOfKind_51 rfl
      · by_cases f3 : w = 0
        · subst f3
          rw [show qOf 6 0 = 1 from (by first | exact if_pos (by omega) | exact if_neg (by omega))]
          refine Ef.in (md := mX4_isOfKind) (L := [some (.ref b), some (.int (nI x)), some (.int (nI 0)), none, none]) rfl (Nat.le_of_ble_eq_true rfl) rfl ?_
          refine E_aload_n at_X4_isOfKind_0 rfl ?_
          refine E_getfield (v := .ref (b + 1)) at_X4_isOfKind_1 h0 rfl (by decide) rfl ?_
          refine E_iload_n at_X4_isOfKind_4 rfl ?_
          refine E_ialN (l := qK s) (v := 6) at_X4_isOfKind_5 h1 (by omega) (by omega) e ?_
          refine E_istore_n (L2 := [some (.ref b), some (.int (nI x)), some (.int (nI 0)), some (.int (nI 6)), none]) at_X4_isOfKind_6 rfl ?_
          refine E_iconst (x := nI 0) at_X4_isOfKind_7 (by decide) ?_
          refine E_istore (L2 := [some (.ref b), some (.int (nI x)), some (.int (nI 0)), some (.int (nI 6)), some (.int (nI 0))]) at_X4_isOfKind_8 rfl ?_
          refine E_iload at_X4_isOfKind_10 rfl ?_
          refine E_bipush (x := nI 7) at_X4_isOfKind_12 (by decide) ?_
          refine E_ic (t := 41) (b := false) at_X4_isOfKind_14 rfl (by decide) ?_
          refine E_iload_n at_X4_isOfKind_17 rfl ?_
          refine E_iload_n at_X4_isOfKind_18 rfl ?_
          refine E_ic (t := 41) (b := false) at_X4_isOfKind_19 rfl (by decide) ?_
          refine E_iload_n at_X4_isOfKind_22 rfl ?_
          have e1 : Ev ab_Z0 1 46 [.int (nI 6)] cs (some (.int (nI 1)), cs) := by
            refine Ef.in (md := mX4_isKind) (L := [some (.int (nI 6))]) rfl (Nat.le_of_ble_eq_true rfl) rfl ?_
            refine E_iload_n at_X4_isKind_0 rfl ?_
            refine E_if (t := 14) (b := false) at_X4_isKind_1 rfl (by decide) ?_
            refine E_iload_n at_X4_isKind_4 rfl ?_
            refine E_bipush (x := nI 7) at_X4_isKind_5 (by decide) ?_
            refine E_ic (t := 14) (b := false) at_X4_isKind_7 rfl (by decide) ?_
            refine E_iconst (x := nI 1) at_X4_isKind_10 (by decide) ?_
            refine E_goto (t := 15) at_X4_isKind_11 rfl ?_
            exact E_iret at_X4_isKind_15 rfl
          refine E_callS (v := some (.int (nI 1))) (As := [.int (nI 6)]) (r0 := []) (cs2 := cs) at_X4_isOfKind_23 rfl rfl (Nat.le_of_ble_eq_true rfl) rfl e1 (by decide) rfl ?_
          refine E_if (t := 41) (b := false) at_X4_isOfKind_26 rfl (by decide) ?_
          refine E_getstatic (t := 1000000) at_X4_isOfKind_29 rfl ?_
          refine E_iload_n at_X4_isOfKind_32 rfl ?_
          refine E_tload (x := nI 4) (j := 6) (t := 0) at_X4_isOfKind_33 hN rfl (by decide) rfl (by decide) (by decide) rfl ?_
          refine E_istore_n (L2 := [some (.ref b), some (.int (nI x)), some (.int (nI 0)), some (.int (nI 4)), some (.int (nI 0))]) at_X4_isOfKind_34 rfl ?_
          refine E_iinc (y := nI 1) (L2 := [some (.ref b), some (.int (nI x)), some (.int (nI 0)), some (.int (nI 4)), some (.int (nI 1))]) at_X4_isOfKind_35 rfl (by decide) rfl ?_
          refine E_goto (t := 10) at_X4_isOfKind_38 rfl ?_
          refine E_iload at_X4_isOfKind_10 rfl ?_
          refine E_bipush (x := nI 7) at_X4_isOfKind_12 (by decide) ?_
          refine E_ic (t := 41) (b := false) at_X4_isOfKind_14 rfl (by decide) ?_
          refine E_iload_n at_X4_isOfKind_17 rfl ?_
          refine E_iload_n at_X4_isOfKind_18 rfl ?_
          refine E_ic (t := 41) (b := false) at_X4_isOfKind_19 rfl (by decide) ?_
          refine E_iload_n at_X4_isOfKind_22 rfl ?_
          have e2 : Ev ab_Z0 1 46 [.int (nI 4)] cs (some (.int (nI 1)), cs) := by
            refine Ef.in (md := mX4_isKind) (L := [some (.int (nI 4))]) rfl (Nat.le_of_ble_eq_true rfl) rfl ?_
            refine E_iload_n at_X4_isKind_0 rfl ?_
            refine E_if (t := 14) (b := false) at_X4_isKind_1 rfl (by decide) ?_
            refine E_iload_n at_X4_isKind_4 rfl ?_
            refine E_bipush (x := nI 7) at_X4_isKind_5 (by decide) ?_
            refine E_ic (t := 14) (b := false) at_X4_isKind_7 rfl (by decide) ?_
            refine E_iconst (x := nI 1) at_X4_isKind_10 (by decide) ?_
            refine E_goto (t := 15) at_X4_isKind_11 rfl ?_
            exact E_iret at_X4_isKind_15 rfl
          refine E_callS (v := some (.int (nI 1))) (As := [.int (nI 4)]) (r0 := []) (cs2 := cs) at_X4_isOfKind_23 rfl rfl (Nat.le_of_ble_eq_true rfl) rfl e2 (by decide) rfl ?_
          refine E_if (t := 41) (b := false) at_X4_isOfKind_26 rfl (by decide) ?_
          refine E_getstatic (t := 1000000) at_X4_isOfKind_29 rfl ?_
          refine E_iload_n at_X4_isOfKind_32 rfl ?_
          refine E_tload (x := nI 0) (j := 4) (t := 0) at_X4_isOfKind_33 hN rfl (by decide) rfl (by decide) (by decide) rfl ?_
          refine E_istore_n (L2 := [some (.ref b), some (.int (nI x)), some (.int (nI 0)), some (.int (nI 0)), some (.int (nI 1))]) at_X4_isOfKind_34 rfl ?_
          refine E_iinc (y := nI 2) (L2 := [some (.ref b), some (.int (nI x)), some (.int (nI 0)), some (.int (nI 0)), some (.int (nI 2))]) at_X4_isOfKind_35 rfl (by decide) rfl ?_
          refine E_goto (t := 10) at_X4_isOfKind_38 rfl ?_
          refine E_iload at_X4_isOfKind_10 rfl ?_
          refine E_bipush (x := nI 7) at_X4_isOfKind_12 (by decide) ?_
          refine E_ic (t := 41) (b := false) at_X4_isOfKind_14 rfl (by decide) ?_
          refine E_iload_n at_X4_isOfKind_17 rfl ?_
          refine E_iload_n at_X4_isOfKind_18 rfl ?_
          refine E_ic (t := 41) (b := true) at_X4_isOfKind_19 rfl (by decide) ?_
          refine E_iload_n at_X4_isOfKind_41 rfl ?_
          refine E_iload_n at_X4_isOfKind_42 rfl ?_
          refine E_ic (t := 50) (b := false) at_X4_isOfKind_43 rfl (by decide) ?_
          refine E_iconst (x := nI 1) at_X4_isOfKind_46 (by decide) ?_
          refine E_goto (t := 51) at_X4_isOfKind_47 rfl ?_
          exact E_iret at_X4_isOfKind_51 rfl
        · rw [show qOf 6 w = 0 from (by first | exact if_pos (by omega) | exact if_neg (by omega))]
          refine Ef.in (md := mX4_isOfKind) (L := [some (.ref b), some (.int (nI x)), some (.int (nI w)), none, none]) rfl (Nat.le_of_ble_eq_true rfl) rfl ?_
          refine E_aload_n at_X4_isOfKind_0 rfl ?_
          refine E_getfield (v := .ref (b + 1)) at_X4_isOfKind_1 h0 rfl (by decide) rfl ?_
          refine E_iload_n at_X4_isOfKind_4 rfl ?_
          refine E_ialN (l := qK s) (v := 6) at_X4_isOfKind_5 h1 (by omega) (by omega) e ?_
          refine E_istore_n (L2 := [some (.ref b), some (.int (nI x)), some (.int (nI w)), some (.int (nI 6)), none]) at_X4_isOfKind_6 rfl ?_
          refine E_iconst (x := nI 0) at_X4_isOfKind_7 (by decide) ?_
          refine E_istore (L2 := [some (.ref b), some (.int (nI x)), some (.int (nI w)), some (.int (nI 6)), some (.int (nI 0))]) at_X4_isOfKind_8 rfl ?_
          refine E_iload at_X4_isOfKind_10 rfl ?_
          refine E_bipush (x := nI 7) at_X4_isOfKind_12 (by decide) ?_
          refine E_ic (t := 41) (b := false) at_X4_isOfKind_14 rfl (by decide) ?_
          refine E_iload_n at_X4_isOfKind_17 rfl ?_
          refine E_iload_n at_X4_isOfKind_18 rfl ?_
          refine E_ic (t := 41) (b := false) at_X4_isOfKind_19 rfl ((cn_eq (nI_toInt (by omega)) (nI_toInt (by omega))).trans (decide_eq_false (by omega))) ?_
          refine E_iload_n at_X4_isOfKind_22 rfl ?_
          have e1 : Ev ab_Z0 1 46 [.int (nI 6)] cs (some (.int (nI 1)), cs) := by
            refine Ef.in (md := mX4_isKind) (L := [some (.int (nI 6))]) rfl (Nat.le_of_ble_eq_true rfl) rfl ?_
            refine E_iload_n at_X4_isKind_0 rfl ?_
            refine E_if (t := 14) (b := false) at_X4_isKind_1 rfl (by decide) ?_
            refine E_iload_n at_X4_isKind_4 rfl ?_
            refine E_bipush (x := nI 7) at_X4_isKind_5 (by decide) ?_
            refine E_ic (t := 14) (b := false) at_X4_isKind_7 rfl (by decide) ?_
            refine E_iconst (x := nI 1) at_X4_isKind_10 (by decide) ?_
            refine E_goto (t := 15) at_X4_isKind_11 rfl ?_
            exact E_iret at_X4_isKind_15 rfl
          refine E_callS (v := some (.int (nI 1))) (As := [.int (nI 6)]) (r0 := []) (cs2 := cs) at_X4_isOfKind_23 rfl rfl (Nat.le_of_ble_eq_true rfl) rfl e1 (by decide) rfl ?_
          refine E_if (t := 41) (b := false) at_X4_isOfKind_26 rfl (by decide) ?_
          refine E_getstatic (t := 1000000) at_X4_isOfKind_29 rfl ?_
          refine E_iload_n at_X4_isOfKind_32 rfl ?_
          refine E_tload (x := nI 4) (j := 6) (t := 0) at_X4_isOfKind_33 hN rfl (by decide) rfl (by decide) (by decide) rfl ?_
          refine E_istore_n (L2 := [some (.ref b), some (.int (nI x)), some (.int (nI w)), some (.int (nI 4)), some (.int (nI 0))]) at_X4_isOfKind_34 rfl ?_
          refine E_iinc (y := nI 1) (L2 := [some (.ref b), some (.int (nI x)), some (.int (nI w)), some (.int (nI 4)), some (.int (nI 1))]) at_X4_isOfKind_35 rfl (by decide) rfl ?_
          refine E_goto (t := 10) at_X4_isOfKind_38 rfl ?_
          refine E_iload at_X4_isOfKind_10 rfl ?_
          refine E_bipush (x := nI 7) at_X4_isOfKind_12 (by decide) ?_
          refine E_ic (t := 41) (b := false) at_X4_isOfKind_14 rfl (by decide) ?_
          refine E_iload_n at_X4_isOfKind_17 rfl ?_
          refine E_iload_n at_X4_isOfKind_18 rfl ?_
          refine E_ic (t := 41) (b := false) at_X4_isOfKind_19 rfl ((cn_eq (nI_toInt (by omega)) (nI_toInt (by omega))).trans (decide_eq_false (by omega))) ?_
          refine E_iload_n at_X4_isOfKind_22 rfl ?_
          have e2 : Ev ab_Z0 1 46 [.int (nI 4)] cs (some (.int (nI 1)), cs) := by
            refine Ef.in (md := mX4_isKind) (L := [some (.int (nI 4))]) rfl (Nat.le_of_ble_eq_true rfl) rfl ?_
            refine E_iload_n at_X4_isKind_0 rfl ?_
            refine E_if (t := 14) (b := false) at_X4_isKind_1 rfl (by decide) ?_
            refine E_iload_n at_X4_isKind_4 rfl ?_
            refine E_bipush (x := nI 7) at_X4_isKind_5 (by decide) ?_
            refine E_ic (t := 14) (b := false) at_X4_isKind_7 rfl (by decide) ?_
            refine E_iconst (x := nI 1) at_X4_isKind_10 (by decide) ?_
            refine E_goto (t := 15) at_X4_isKind_11 rfl ?_
            exact E_iret at_X4_isKind_15 rfl
          refine E_callS (v := some (.int (nI 1))) (As := [.int (nI 4)]) (r0 := []) (cs2 := cs) at_X4_isOfKind_23 rfl rfl (Nat.le_of_ble_eq_true rfl) rfl e2 (by decide) rfl ?_
          refine E_if (t := 41) (b := false) at_X4_isOfKind_26 rfl (by decide) ?_
          refine E_getstatic (t := 1000000) at_X4_isOfKind_29 rfl ?_
          refine E_iload_n at_X4_isOfKind_32 rfl ?_
          refine E_tload (x := nI 0) (j := 4) (t := 0) at_X4_isOfKind_33 hN rfl (by decide) rfl (by decide) (by decide) rfl ?_
          refine E_istore_n (L2 := [some (.ref b), some (.int (nI x)), some (.int (nI w)), some (.int (nI 0)), some (.int (nI 1))]) at_X4_isOfKind_34 rfl ?_
          refine E_iinc (y := nI 2) (L2 := [some (.ref b), some (.int (nI x)), some (.int (nI w)), some (.int (nI 0)), some (.int (nI 2))]) at_X4_isOfKind_35 rfl (by decide) rfl ?_
          refine E_goto (t := 10) at_X4_isOfKind_38 rfl ?_
          refine E_iload at_X4_isOfKind_10 rfl ?_
          refine E_bipush (x := nI 7) at_X4_isOfKind_12 (by decide) ?_
          refine E_ic (t := 41) (b := false) at_X4_isOfKind_14 rfl (by decide) ?_
          refine E_iload_n at_X4_isOfKind_17 rfl ?_
          refine E_iload_n at_X4_isOfKind_18 rfl ?_
          refine E_ic (t := 41) (b := false) at_X4_isOfKind_19 rfl ((cn_eq (nI_toInt (by omega)) (nI_toInt (by omega))).trans (decide_eq_false (by omega))) ?_
          refine E_iload_n at_X4_isOfKind_22 rfl ?_
          have e3 : Ev ab_Z0 1 46 [.int (nI 0)] cs (some (.int (nI 1)), cs) := by
            refine Ef.in (md := mX4_isKind) (L := [some (.int (nI 0))]) rfl (Nat.le_of_ble_eq_true rfl) rfl ?_
            refine E_iload_n at_X4_isKind_0 rfl ?_
            refine E_if (t := 14) (b := false) at_X4_isKind_1 rfl (by decide) ?_
            refine E_iload_n at_X4_isKind_4 rfl ?_
            refine E_bipush (x := nI 7) at_X4_isKind_5 (by decide) ?_
            refine E_ic (t := 14) (b := false) at_X4_isKind_7 rfl (by decide) ?_
            refine E_iconst (x := nI 1) at_X4_isKind_10 (by decide) ?_
            refine E_goto (t := 15) at_X4_isKind_11 rfl ?_
            exact E_iret at_X4_isKind_15 rfl
          refine E_callS (v := some (.int (nI 1))) (As := [.int (nI 0)]) (r0 := []) (cs2 := cs) at_X4_isOfKind_23 rfl rfl (Nat.le_of_ble_eq_true rfl) rfl e3 (by decide) rfl ?_
          refine E_if (t := 41) (b := false) at_X4_isOfKind_26 rfl (by decide) ?_
          refine E_getstatic (t := 1000000) at_X4_isOfKind_29 rfl ?_
          refine E_iload_n at_X4_isOfKind_32 rfl ?_
          refine E_tload (x := (-1)) (j := 0) (t := 0) at_X4_isOfKind_33 hN rfl (by decide) rfl (by decide) (by decide) rfl ?_
          refine E_istore_n (L2 := [some (.ref b), some (.int (nI x)), some (.int (nI w)), some (.int (-1)), some (.int (nI 2))]) at_X4_isOfKind_34 rfl ?_
          refine E_iinc (y := nI 3) (L2 := [some (.ref b), some (.int (nI x)), some (.int (nI w)), some (.int (-1)), some (.int (nI 3))]) at_X4_isOfKind_35 rfl (by decide) rfl ?_
          refine E_goto (t := 10) at_X4_isOfKind_38 rfl ?_
          refine E_iload at_X4_isOfKind_10 rfl ?_
          refine E_bipush (x := nI 7) at_X4_isOfKind_12 (by decide) ?_
          refine E_ic (t := 41) (b := false) at_X4_isOfKind_14 rfl (by decide) ?_
          refine E_iload_n at_X4_isOfKind_17 rfl ?_
          refine E_iload_n at_X4_isOfKind_18 rfl ?_
          refine E_ic (t := 41) (b := false) at_X4_isOfKind_19 rfl ((cn_eq (by decide : (-1 : Int32).toInt = -1) (nI_toInt (by omega))).trans (decide_eq_false (by omega))) ?_
          refine E_iload_n at_X4_isOfKind_22 rfl ?_
          have e4 : Ev ab_Z0 1 46 [.int (-1)] cs (some (.int (nI 0)), cs) := by
            refine Ef.in (md := mX4_isKind) (L := [some (.int (-1))]) rfl (Nat.le_of_ble_eq_true rfl) rfl ?_
            refine E_iload_n at_X4_isKind_0 rfl ?_
            refine E_if (t := 14) (b := true) at_X4_isKind_1 rfl (by decide) ?_
            refine E_iconst (x := nI 0) at_X4_isKind_14 (by decide) ?_
            exact E_iret at_X4_isKind_15 rfl
          refine E_callS (v := some (.int (nI 0))) (As := [.int (-1)]) (r0 := []) (cs2 := cs) at_X4_isOfKind_23 rfl rfl (Nat.le_of_ble_eq_true rfl) rfl e4 (by decide) rfl ?_
          refine E_if (t := 41) (b := true) at_X4_isOfKind_26 rfl (by decide) ?_
          refine E_iload_n at_X4_isOfKind_41 rfl ?_
          refine E_iload_n at_X4_isOfKind_42 rfl ?_
          refine E_ic (t := 50) (b := true) at_X4_isOfKind_43 rfl ((cn_ne (by decide : (-1 : Int32).toInt = -1) (nI_toInt (by omega))).trans (decide_eq_true (by omega))) ?_
          refine E_iconst (x := nI 0) at_X4_isOfKind_50 (by decide) ?_
          exact E_iret at_X4_isOfKind_51 rfl
